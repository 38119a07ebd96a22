theorem dX5_place_202 : decode cX5_place 202 = .ok (.ldc 68, 2) := by decide +kernel
theorem dX5_place_204 : decode cX5_place 204 = .ok (.iastore, 1) := by decide +kernel
theorem dX5_place_205 : decode cX5_place 205 = .ok (.aload_n 0, 1) := by decide +kernel
theorem dX5_place_206 : decode cX5_place 206 = .ok (.iload_n 1, 1) := by decide +kernel
theorem dX5_place_207 : decode cX5_place 207 = .ok (.iload 5, 2) := by decide +kernel
theorem dX5_place_209 : decode cX5_place 209 = .ok (.invokevirtual 69, 3) := by decide +kernel
theorem dX5_place_212 : decode cX5_place 212 = .ok (.iinc 5 1, 3) := by decide +kernel
theorem dX5_place_215 : decode cX5_place 215 = .ok (.goto (-60), 3) := by decide +kernel
theorem dX5_place_218 : decode cX5_place 218 = .ok (.return_, 1) := by decide +kernel
theorem dX5_speed_0 : decode cX5_speed 0 = .ok (.aload_n 0, 1) := by decide +kernel
theorem dX5_speed_1 : decode cX5_speed 1 = .ok (.aload_n 0, 1) := by decide +kernel
theorem dX5_speed_2 : decode cX5_speed 2 = .ok (.iload_n 1, 1) := by decide +kernel
theorem dX5_speed_3 : decode cX5_speed 3 = .ok (.invokevirtual 73, 3) := by decide +kernel
theorem dX5_speed_6 : decode cX5_speed 6 = .ok (.ifCond .eq 33, 3) := by decide +kernel
theorem dX5_speed_9 : decode cX5_speed 9 = .ok (.iload_n 2, 1) := by decide +kernel
theorem dX5_speed_10 : decode cX5_speed 10 = .ok (.sipush 500, 3) := by decide +kernel
theorem dX5_speed_13 : decode cX5_speed 13 = .ok (.invokestatic 58, 3) := by decide +kernel
theorem dX5_speed_16 : decode cX5_speed 16 = .ok (.ifCond .eq 23, 3) := by decide +kernel
theorem dX5_speed_19 : decode cX5_speed 19 = .ok (.iload_n 3, 1) := by decide +kernel
theorem dX5_speed_20 : decode cX5_speed 20 = .ok (.sipush 500, 3) := by decide +kernel
theorem dX5_speed_23 : decode cX5_speed 23 = .ok (.invokestatic 58, 3) := by decide +kernel
theorem dX5_speed_26 : decode cX5_speed 26 = .ok (.ifCond .eq 13, 3) := by decide +kernel
theorem dX5_speed_29 : decode cX5_speed 29 = .ok (.iload 4, 2) := by decide +kernel
theorem dX5_speed_31 : decode cX5_speed 31 = .ok (.bipush 60, 2) := by decide +kernel
theorem dX5_speed_33 : decode cX5_speed 33 = .ok (.invokestatic 58, 3) := by decide +kernel
theorem dX5_speed_36 : decode cX5_speed 36 = .ok (.ifCond .ne 7, 3) := by decide +kernel
theorem dX5_speed_39 : decode cX5_speed 39 = .ok (.iconst 1, 1) := by decide +kernel
theorem dX5_speed_40 : decode cX5_speed 40 = .ok (.goto 4, 3) := by decide +kernel
theorem dX5_speed_43 : decode cX5_speed 43 = .ok (.iconst 0, 1) := by decide +kernel
theorem dX5_speed_44 : decode cX5_speed 44 = .ok (.putfield 45, 3) := by decide +kernel
theorem dX5_speed_47 : decode cX5_speed 47 = .ok (.aload_n 0, 1) := by decide +kernel
theorem dX5_speed_48 : decode cX5_speed 48 = .ok (.getfield 45, 3) := by decide +kernel
theorem dX5_speed_51 : decode cX5_speed 51 = .ok (.ifCond .ne 45, 3) := by decide +kernel
theorem dX5_speed_54 : decode cX5_speed 54 = .ok (.aload_n 0, 1) := by decide +kernel
theorem dX5_speed_55 : decode cX5_speed 55 = .ok (.getfield 20, 3) := by decide +kernel
theorem dX5_speed_58 : decode cX5_speed 58 = .ok (.bipush 6, 2) := by decide +kernel
theorem dX5_speed_60 : decode cX5_speed 60 = .ok (.iload_n 1, 1) := by decide +kernel
theorem dX5_speed_61 : decode cX5_speed 61 = .ok (.imul, 1) := by decide +kernel
theorem dX5_speed_62 : decode cX5_speed 62 = .ok (.iconst 3, 1) := by decide +kernel
theorem dX5_speed_63 : decode cX5_speed 63 = .ok (.iadd, 1) := by decide +kernel
theorem dX5_speed_64 : decode cX5_speed 64 = .ok (.iload_n 2, 1) := by decide +kernel
theorem dX5_speed_65 : decode cX5_speed 65 = .ok (.iastore, 1) := by decide +kernel
theorem dX5_speed_66 : decode cX5_speed 66 = .ok (.aload_n 0, 1) := by decide +kernel
theorem dX5_speed_67 : decode cX5_speed 67 = .ok (.getfield 20, 3) := by decide +kernel
theorem dX5_speed_70 : decode cX5_speed 70 = .ok (.bipush 6, 2) := by decide +kernel
theorem dX5_speed_72 : decode cX5_speed 72 = .ok (.iload_n 1, 1) := by decide +kernel
theorem dX5_speed_73 : decode cX5_speed 73 = .ok (.imul, 1) := by decide +kernel
theorem dX5_speed_74 : decode cX5_speed 74 = .ok (.iconst 4, 1) := by decide +kernel
theorem dX5_speed_75 : decode cX5_speed 75 = .ok (.iadd, 1) := by decide +kernel
theorem dX5_speed_76 : decode cX5_speed 76 = .ok (.iload_n 3, 1) := by decide +kernel
theorem dX5_speed_77 : decode cX5_speed 77 = .ok (.iastore, 1) := by decide +kernel
theorem dX5_speed_78 : decode cX5_speed 78 = .ok (.aload_n 0, 1) := by decide +kernel
theorem dX5_speed_79 : decode cX5_speed 79 = .ok (.getfield 20, 3) := by decide +kernel
theorem dX5_speed_82 : decode cX5_speed 82 = .ok (.bipush 6, 2) := by decide +kernel
theorem dX5_speed_84 : decode cX5_speed 84 = .ok (.iload_n 1, 1) := by decide +kernel
theorem dX5_speed_85 : decode cX5_speed 85 = .ok (.imul, 1) := by decide +kernel
theorem dX5_speed_86 : decode cX5_speed 86 = .ok (.iconst 5, 1) := by decide +kernel
theorem dX5_speed_87 : decode cX5_speed 87 = .ok (.iadd, 1) := by decide +kernel
theorem dX5_speed_88 : decode cX5_speed 88 = .ok (.iload 4, 2) := by decide +kernel
theorem dX5_speed_90 : decode cX5_speed 90 = .ok (.iastore, 1) := by decide +kernel
theorem dX5_speed_91 : decode cX5_speed 91 = .ok (.aload_n 0, 1) := by decide +kernel
theorem dX5_speed_92 : decode cX5_speed 92 = .ok (.iload_n 1, 1) := by decide +kernel
theorem dX5_speed_93 : decode cX5_speed 93 = .ok (.invokevirtual 62, 3) := by decide +kernel
theorem dX5_speed_96 : decode cX5_speed 96 = .ok (.return_, 1) := by decide +kernel
theorem dX5_follow_0 : decode cX5_follow 0 = .ok (.aload_n 0, 1) := by decide +kernel
theorem dX5_follow_1 : decode cX5_follow 1 = .ok (.aload_n 0, 1) := by decide +kernel
theorem dX5_follow_2 : decode cX5_follow 2 = .ok (.iload_n 1, 1) := by decide +kernel
theorem dX5_follow_3 : decode cX5_follow 3 = .ok (.invokevirtual 73, 3) := by decide +kernel
theorem dX5_follow_6 : decode cX5_follow 6 = .ok (.ifCond .eq 7, 3) := by decide +kernel
theorem dX5_follow_9 : decode cX5_follow 9 = .ok (.iconst 0, 1) := by decide +kernel
theorem dX5_follow_10 : decode cX5_follow 10 = .ok (.goto 4, 3) := by decide +kernel
theorem dX5_follow_13 : decode cX5_follow 13 = .ok (.iconst 1, 1) := by decide +kernel
theorem dX5_follow_14 : decode cX5_follow 14 = .ok (.putfield 45, 3) := by decide +kernel
theorem dX5_follow_17 : decode cX5_follow 17 = .ok (.aload_n 0, 1) := by decide +kernel
theorem dX5_follow_18 : decode cX5_follow 18 = .ok (.getfield 45, 3) := by decide +kernel
theorem dX5_follow_21 : decode cX5_follow 21 = .ok (.ifCond .ne 10, 3) := by decide +kernel
theorem dX5_follow_24 : decode cX5_follow 24 = .ok (.aload_n 0, 1) := by decide +kernel
theorem dX5_follow_25 : decode cX5_follow 25 = .ok (.getfield 17, 3) := by decide +kernel
theorem dX5_follow_28 : decode cX5_follow 28 = .ok (.iload_n 1, 1) := by decide +kernel
theorem dX5_follow_29 : decode cX5_follow 29 = .ok (.iload_n 2, 1) := by decide +kernel
theorem dX5_follow_30 : decode cX5_follow 30 = .ok (.bastore, 1) := by decide +kernel
theorem dX5_follow_31 : decode cX5_follow 31 = .ok (.return_, 1) := by decide +kernel
theorem dX5_leave_0 : decode cX5_leave 0 = .ok (.aload_n 0, 1) := by decide +kernel
theorem dX5_leave_1 : decode cX5_leave 1 = .ok (.aload_n 0, 1) := by decide +kernel
theorem dX5_leave_2 : decode cX5_leave 2 = .ok (.iload_n 1, 1) := by decide +kernel
theorem dX5_leave_3 : decode cX5_leave 3 = .ok (.invokevirtual 73, 3) := by decide +kernel
theorem dX5_leave_6 : decode cX5_leave 6 = .ok (.ifCond .eq 7, 3) := by decide +kernel
theorem dX5_leave_9 : decode cX5_leave 9 = .ok (.iconst 0, 1) := by decide +kernel
theorem dX5_leave_10 : decode cX5_leave 10 = .ok (.goto 4, 3) := by decide +kernel
theorem dX5_leave_13 : decode cX5_leave 13 = .ok (.iconst 1, 1) := by decide +kernel
theorem dX5_leave_14 : decode cX5_leave 14 = .ok (.putfield 45, 3) := by decide +kernel
theorem dX5_leave_17 : decode cX5_leave 17 = .ok (.aload_n 0, 1) := by decide +kernel
theorem dX5_leave_18 : decode cX5_leave 18 = .ok (.getfield 45, 3) := by decide +kernel
theorem dX5_leave_21 : decode cX5_leave 21 = .ok (.ifCond .ne 15, 3) := by decide +kernel
theorem dX5_leave_24 : decode cX5_leave 24 = .ok (.aload_n 0, 1) := by decide +kernel
theorem dX5_leave_25 : decode cX5_leave 25 = .ok (.getfield 13, 3) := by decide +kernel
theorem dX5_leave_28 : decode cX5_leave 28 = .ok (.iload_n 1, 1) := by decide +kernel
theorem dX5_leave_29 : decode cX5_leave 29 = .ok (.iconst 0, 1) := by decide +kernel
theorem dX5_leave_30 : decode cX5_leave 30 = .ok (.bastore, 1) := by decide +kernel
theorem dX5_leave_31 : decode cX5_leave 31 = .ok (.aload_n 0, 1) := by decide +kernel
theorem dX5_leave_32 : decode cX5_leave 32 = .ok (.iload_n 1, 1) := by decide +kernel
theorem dX5_leave_33 : decode cX5_leave 33 = .ok (.invokevirtual 62, 3) := by decide +kernel
theorem dX5_leave_36 : decode cX5_leave 36 = .ok (.return_, 1) := by decide +kernel
theorem dX5_look_0 : decode cX5_look 0 = .ok (.aload_n 0, 1) := by decide +kernel
theorem dX5_look_1 : decode cX5_look 1 = .ok (.iload_n 1, 1) := by decide +kernel
theorem dX5_look_2 : decode cX5_look 2 = .ok (.iload_n 2, 1) := by decide +kernel
theorem dX5_look_3 : decode cX5_look 3 = .ok (.if_icmp .ge 7, 3) := by decide +kernel
theorem dX5_look_6 : decode cX5_look 6 = .ok (.iload_n 1, 1) := by decide +kernel
theorem dX5_look_7 : decode cX5_look 7 = .ok (.goto 4, 3) := by decide +kernel
theorem dX5_look_10 : decode cX5_look 10 = .ok (.iload_n 2, 1) := by decide +kernel
theorem dX5_look_11 : decode cX5_look 11 = .ok (.putfield 76, 3) := by decide +kernel
theorem dX5_look_14 : decode cX5_look 14 = .ok (.aload_n 0, 1) := by decide +kernel
theorem dX5_look_15 : decode cX5_look 15 = .ok (.iload_n 1, 1) := by decide +kernel
theorem dX5_look_16 : decode cX5_look 16 = .ok (.iload_n 2, 1) := by decide +kernel
theorem dX5_look_17 : decode cX5_look 17 = .ok (.if_icmp .ge 7, 3) := by decide +kernel
theorem dX5_look_20 : decode cX5_look 20 = .ok (.iload_n 2, 1) := by decide +kernel
theorem dX5_look_21 : decode cX5_look 21 = .ok (.goto 4, 3) := by decide +kernel
theorem dX5_look_24 : decode cX5_look 24 = .ok (.iload_n 1, 1) := by decide +kernel
theorem dX5_look_25 : decode cX5_look 25 = .ok (.putfield 79, 3) := by decide +kernel
theorem dX5_look_28 : decode cX5_look 28 = .ok (.bipush 6, 2) := by decide +kernel
theorem dX5_look_30 : decode cX5_look 30 = .ok (.aload_n 0, 1) := by decide +kernel
theorem dX5_look_31 : decode cX5_look 31 = .ok (.getfield 76, 3) := by decide +kernel
theorem dX5_look_34 : decode cX5_look 34 = .ok (.imul, 1) := by decide +kernel
theorem dX5_look_35 : decode cX5_look 35 = .ok (.istore_n 3, 1) := by decide +kernel
theorem dX5_look_36 : decode cX5_look 36 = .ok (.bipush 6, 2) := by decide +kernel
theorem dX5_look_38 : decode cX5_look 38 = .ok (.aload_n 0, 1) := by decide +kernel
theorem dX5_look_39 : decode cX5_look 39 = .ok (.getfield 79, 3) := by decide +kernel
theorem dX5_look_42 : decode cX5_look 42 = .ok (.imul, 1) := by decide +kernel
theorem dX5_look_43 : decode cX5_look 43 = .ok (.istore 4, 2) := by decide +kernel
theorem dX5_look_45 : decode cX5_look 45 = .ok (.aload_n 0, 1) := by decide +kernel
theorem dX5_look_46 : decode cX5_look 46 = .ok (.aload_n 0, 1) := by decide +kernel
theorem dX5_look_47 : decode cX5_look 47 = .ok (.getfield 20, 3) := by decide +kernel
theorem dX5_look_50 : decode cX5_look 50 = .ok (.iload 4, 2) := by decide +kernel
theorem dX5_look_52 : decode cX5_look 52 = .ok (.iaload, 1) := by decide +kernel
theorem dX5_look_53 : decode cX5_look 53 = .ok (.aload_n 0, 1) := by decide +kernel
theorem dX5_look_54 : decode cX5_look 54 = .ok (.getfield 20, 3) := by decide +kernel
theorem dX5_look_57 : decode cX5_look 57 = .ok (.iload_n 3, 1) := by decide +kernel
theorem dX5_look_58 : decode cX5_look 58 = .ok (.iaload, 1) := by decide +kernel
theorem dX5_look_59 : decode cX5_look 59 = .ok (.isub, 1) := by decide +kernel
theorem dX5_look_60 : decode cX5_look 60 = .ok (.i2l, 1) := by decide +kernel
theorem dX5_look_61 : decode cX5_look 61 = .ok (.putfield 82, 3) := by decide +kernel
theorem dX5_look_64 : decode cX5_look 64 = .ok (.aload_n 0, 1) := by decide +kernel
theorem dX5_look_65 : decode cX5_look 65 = .ok (.aload_n 0, 1) := by decide +kernel
theorem dX5_look_66 : decode cX5_look 66 = .ok (.getfield 20, 3) := by decide +kernel
theorem dX5_look_69 : decode cX5_look 69 = .ok (.iload 4, 2) := by decide +kernel
theorem dX5_look_71 : decode cX5_look 71 = .ok (.iconst 1, 1) := by decide +kernel
theorem dX5_look_72 : decode cX5_look 72 = .ok (.iadd, 1) := by decide +kernel
theorem dX5_look_73 : decode cX5_look 73 = .ok (.iaload, 1) := by decide +kernel
theorem dX5_look_74 : decode cX5_look 74 = .ok (.aload_n 0, 1) := by decide +kernel
theorem dX5_look_75 : decode cX5_look 75 = .ok (.getfield 20, 3) := by decide +kernel
theorem dX5_look_78 : decode cX5_look 78 = .ok (.iload_n 3, 1) := by decide +kernel
theorem dX5_look_79 : decode cX5_look 79 = .ok (.iconst 1, 1) := by decide +kernel
theorem dX5_look_80 : decode cX5_look 80 = .ok (.iadd, 1) := by decide +kernel
theorem dX5_look_81 : decode cX5_look 81 = .ok (.iaload, 1) := by decide +kernel
theorem dX5_look_82 : decode cX5_look 82 = .ok (.isub, 1) := by decide +kernel
theorem dX5_look_83 : decode cX5_look 83 = .ok (.i2l, 1) := by decide +kernel
theorem dX5_look_84 : decode cX5_look 84 = .ok (.putfield 86, 3) := by decide +kernel
theorem dX5_look_87 : decode cX5_look 87 = .ok (.aload_n 0, 1) := by decide +kernel
theorem dX5_look_88 : decode cX5_look 88 = .ok (.aload_n 0, 1) := by decide +kernel
theorem dX5_look_89 : decode cX5_look 89 = .ok (.getfield 20, 3) := by decide +kernel
theorem dX5_look_92 : decode cX5_look 92 = .ok (.iload 4, 2) := by decide +kernel
theorem dX5_look_94 : decode cX5_look 94 = .ok (.iconst 2, 1) := by decide +kernel
theorem dX5_look_95 : decode cX5_look 95 = .ok (.iadd, 1) := by decide +kernel
theorem dX5_look_96 : decode cX5_look 96 = .ok (.iaload, 1) := by decide +kernel
theorem dX5_look_97 : decode cX5_look 97 = .ok (.aload_n 0, 1) := by decide +kernel
theorem dX5_look_98 : decode cX5_look 98 = .ok (.getfield 20, 3) := by decide +kernel
theorem dX5_look_101 : decode cX5_look 101 = .ok (.iload_n 3, 1) := by decide +kernel
theorem dX5_look_102 : decode cX5_look 102 = .ok (.iconst 2, 1) := by decide +kernel
theorem dX5_look_103 : decode cX5_look 103 = .ok (.iadd, 1) := by decide +kernel
theorem dX5_look_104 : decode cX5_look 104 = .ok (.iaload, 1) := by decide +kernel
theorem dX5_look_105 : decode cX5_look 105 = .ok (.isub, 1) := by decide +kernel
theorem dX5_look_106 : decode cX5_look 106 = .ok (.i2l, 1) := by decide +kernel
theorem dX5_look_107 : decode cX5_look 107 = .ok (.putfield 89, 3) := by decide +kernel
theorem dX5_look_110 : decode cX5_look 110 = .ok (.aload_n 0, 1) := by decide +kernel
theorem dX5_look_111 : decode cX5_look 111 = .ok (.aload_n 0, 1) := by decide +kernel
theorem dX5_look_112 : decode cX5_look 112 = .ok (.getfield 20, 3) := by decide +kernel
theorem dX5_look_115 : decode cX5_look 115 = .ok (.iload 4, 2) := by decide +kernel
theorem dX5_look_117 : decode cX5_look 117 = .ok (.iconst 3, 1) := by decide +kernel
theorem dX5_look_118 : decode cX5_look 118 = .ok (.iadd, 1) := by decide +kernel
theorem dX5_look_119 : decode cX5_look 119 = .ok (.iaload, 1) := by decide +kernel
theorem dX5_look_120 : decode cX5_look 120 = .ok (.aload_n 0, 1) := by decide +kernel
theorem dX5_look_121 : decode cX5_look 121 = .ok (.getfield 20, 3) := by decide +kernel
theorem dX5_look_124 : decode cX5_look 124 = .ok (.iload_n 3, 1) := by decide +kernel
theorem dX5_look_125 : decode cX5_look 125 = .ok (.iconst 3, 1) := by decide +kernel
theorem dX5_look_126 : decode cX5_look 126 = .ok (.iadd, 1) := by decide +kernel
theorem dX5_look_127 : decode cX5_look 127 = .ok (.iaload, 1) := by decide +kernel
theorem dX5_look_128 : decode cX5_look 128 = .ok (.isub, 1) := by decide +kernel
theorem dX5_look_129 : decode cX5_look 129 = .ok (.i2l, 1) := by decide +kernel
theorem dX5_look_130 : decode cX5_look 130 = .ok (.putfield 92, 3) := by decide +kernel
theorem dX5_look_133 : decode cX5_look 133 = .ok (.aload_n 0, 1) := by decide +kernel
theorem dX5_look_134 : decode cX5_look 134 = .ok (.aload_n 0, 1) := by decide +kernel
theorem dX5_look_135 : decode cX5_look 135 = .ok (.getfield 20, 3) := by decide +kernel
theorem dX5_look_138 : decode cX5_look 138 = .ok (.iload 4, 2) := by decide +kernel
theorem dX5_look_140 : decode cX5_look 140 = .ok (.iconst 4, 1) := by decide +kernel
theorem dX5_look_141 : decode cX5_look 141 = .ok (.iadd, 1) := by decide +kernel
theorem dX5_look_142 : decode cX5_look 142 = .ok (.iaload, 1) := by decide +kernel
theorem dX5_look_143 : decode cX5_look 143 = .ok (.aload_n 0, 1) := by decide +kernel
theorem dX5_look_144 : decode cX5_look 144 = .ok (.getfield 20, 3) := by decide +kernel
theorem dX5_look_147 : decode cX5_look 147 = .ok (.iload_n 3, 1) := by decide +kernel
theorem dX5_look_148 : decode cX5_look 148 = .ok (.iconst 4, 1) := by decide +kernel
theorem dX5_look_149 : decode cX5_look 149 = .ok (.iadd, 1) := by decide +kernel
theorem dX5_look_150 : decode cX5_look 150 = .ok (.iaload, 1) := by decide +kernel
theorem dX5_look_151 : decode cX5_look 151 = .ok (.isub, 1) := by decide +kernel
theorem dX5_look_152 : decode cX5_look 152 = .ok (.i2l, 1) := by decide +kernel
theorem dX5_look_153 : decode cX5_look 153 = .ok (.putfield 95, 3) := by decide +kernel
theorem dX5_look_156 : decode cX5_look 156 = .ok (.aload_n 0, 1) := by decide +kernel
theorem dX5_look_157 : decode cX5_look 157 = .ok (.aload_n 0, 1) := by decide +kernel
theorem dX5_look_158 : decode cX5_look 158 = .ok (.getfield 20, 3) := by decide +kernel
theorem dX5_look_161 : decode cX5_look 161 = .ok (.iload 4, 2) := by decide +kernel
theorem dX5_look_163 : decode cX5_look 163 = .ok (.iconst 5, 1) := by decide +kernel
theorem dX5_look_164 : decode cX5_look 164 = .ok (.iadd, 1) := by decide +kernel
theorem dX5_look_165 : decode cX5_look 165 = .ok (.iaload, 1) := by decide +kernel
theorem dX5_look_166 : decode cX5_look 166 = .ok (.aload_n 0, 1) := by decide +kernel
theorem dX5_look_167 : decode cX5_look 167 = .ok (.getfield 20, 3) := by decide +kernel
theorem dX5_look_170 : decode cX5_look 170 = .ok (.iload_n 3, 1) := by decide +kernel
theorem dX5_look_171 : decode cX5_look 171 = .ok (.iconst 5, 1) := by decide +kernel
theorem dX5_look_172 : decode cX5_look 172 = .ok (.iadd, 1) := by decide +kernel
theorem dX5_look_173 : decode cX5_look 173 = .ok (.iaload, 1) := by decide +kernel
theorem dX5_look_174 : decode cX5_look 174 = .ok (.isub, 1) := by decide +kernel
theorem dX5_look_175 : decode cX5_look 175 = .ok (.i2l, 1) := by decide +kernel
theorem dX5_look_176 : decode cX5_look 176 = .ok (.putfield 98, 3) := by decide +kernel
theorem dX5_look_179 : decode cX5_look 179 = .ok (.aload_n 0, 1) := by decide +kernel
theorem dX5_look_180 : decode cX5_look 180 = .ok (.aload_n 0, 1) := by decide +kernel
theorem dX5_look_181 : decode cX5_look 181 = .ok (.getfield 82, 3) := by decide +kernel
theorem dX5_look_184 : decode cX5_look 184 = .ok (.aload_n 0, 1) := by decide +kernel
theorem dX5_look_185 : decode cX5_look 185 = .ok (.getfield 92, 3) := by decide +kernel
theorem dX5_look_188 : decode cX5_look 188 = .ok (.lmul, 1) := by decide +kernel
theorem dX5_look_189 : decode cX5_look 189 = .ok (.aload_n 0, 1) := by decide +kernel
theorem dX5_look_190 : decode cX5_look 190 = .ok (.getfield 86, 3) := by decide +kernel
theorem dX5_look_193 : decode cX5_look 193 = .ok (.aload_n 0, 1) := by decide +kernel
theorem dX5_look_194 : decode cX5_look 194 = .ok (.getfield 95, 3) := by decide +kernel
theorem dX5_look_197 : decode cX5_look 197 = .ok (.lmul, 1) := by decide +kernel
theorem dX5_look_198 : decode cX5_look 198 = .ok (.ladd, 1) := by decide +kernel
theorem dX5_look_199 : decode cX5_look 199 = .ok (.putfield 101, 3) := by decide +kernel
theorem dX5_look_202 : decode cX5_look 202 = .ok (.aload_n 0, 1) := by decide +kernel
theorem dX5_look_203 : decode cX5_look 203 = .ok (.aload_n 0, 1) := by decide +kernel
theorem dX5_look_204 : decode cX5_look 204 = .ok (.getfield 101, 3) := by decide +kernel
theorem dX5_look_207 : decode cX5_look 207 = .ok (.lconst 0, 1) := by decide +kernel
theorem dX5_look_208 : decode cX5_look 208 = .ok (.lcmp, 1) := by decide +kernel
theorem dX5_look_209 : decode cX5_look 209 = .ok (.ifCond .lt 7, 3) := by decide +kernel
theorem dX5_look_212 : decode cX5_look 212 = .ok (.lconst 0, 1) := by decide +kernel
theorem dX5_look_213 : decode cX5_look 213 = .ok (.goto 28, 3) := by decide +kernel
theorem dX5_look_216 : decode cX5_look 216 = .ok (.aload_n 0, 1) := by decide +kernel
theorem dX5_look_217 : decode cX5_look 217 = .ok (.getfield 101, 3) := by decide +kernel
theorem dX5_look_220 : decode cX5_look 220 = .ok (.lneg, 1) := by decide +kernel
theorem dX5_look_221 : decode cX5_look 221 = .ok (.aload_n 0, 1) := by decide +kernel
theorem dX5_look_222 : decode cX5_look 222 = .ok (.getfield 92, 3) := by decide +kernel
theorem dX5_look_225 : decode cX5_look 225 = .ok (.aload_n 0, 1) := by decide +kernel
theorem dX5_look_226 : decode cX5_look 226 = .ok (.getfield 92, 3) := by decide +kernel
theorem dX5_look_229 : decode cX5_look 229 = .ok (.lmul, 1) := by decide +kernel
theorem dX5_look_230 : decode cX5_look 230 = .ok (.aload_n 0, 1) := by decide +kernel
theorem dX5_look_231 : decode cX5_look 231 = .ok (.getfield 95, 3) := by decide +kernel
theorem dX5_look_234 : decode cX5_look 234 = .ok (.aload_n 0, 1) := by decide +kernel
theorem dX5_look_235 : decode cX5_look 235 = .ok (.getfield 95, 3) := by decide +kernel
theorem dX5_look_238 : decode cX5_look 238 = .ok (.lmul, 1) := by decide +kernel
theorem dX5_look_239 : decode cX5_look 239 = .ok (.ladd, 1) := by decide +kernel
theorem dX5_look_240 : decode cX5_look 240 = .ok (.ldiv, 1) := by decide +kernel
theorem dX5_look_241 : decode cX5_look 241 = .ok (.putfield 104, 3) := by decide +kernel
theorem dX5_look_244 : decode cX5_look 244 = .ok (.aload_n 0, 1) := by decide +kernel
theorem dX5_look_245 : decode cX5_look 245 = .ok (.aload_n 0, 1) := by decide +kernel
theorem dX5_look_246 : decode cX5_look 246 = .ok (.getfield 104, 3) := by decide +kernel
theorem dX5_look_249 : decode cX5_look 249 = .ok (.aload_n 0, 1) := by decide +kernel
theorem dX5_look_250 : decode cX5_look 250 = .ok (.getfield 7, 3) := by decide +kernel
theorem dX5_look_253 : decode cX5_look 253 = .ok (.iconst 0, 1) := by decide +kernel
theorem dX5_look_254 : decode cX5_look 254 = .ok (.iaload, 1) := by decide +kernel
theorem dX5_look_255 : decode cX5_look 255 = .ok (.i2l, 1) := by decide +kernel
theorem dX5_look_256 : decode cX5_look 256 = .ok (.lcmp, 1) := by decide +kernel
theorem dX5_look_257 : decode cX5_look 257 = .ok (.ifCond .le 13, 3) := by decide +kernel
theorem dX5_look_260 : decode cX5_look 260 = .ok (.aload_n 0, 1) := by decide +kernel
theorem dX5_look_261 : decode cX5_look 261 = .ok (.getfield 7, 3) := by decide +kernel
theorem dX5_look_264 : decode cX5_look 264 = .ok (.iconst 0, 1) := by decide +kernel
theorem dX5_look_265 : decode cX5_look 265 = .ok (.iaload, 1) := by decide +kernel
theorem dX5_look_266 : decode cX5_look 266 = .ok (.i2l, 1) := by decide +kernel
theorem dX5_look_267 : decode cX5_look 267 = .ok (.goto 7, 3) := by decide +kernel
theorem dX5_look_270 : decode cX5_look 270 = .ok (.aload_n 0, 1) := by decide +kernel
theorem dX5_look_271 : decode cX5_look 271 = .ok (.getfield 104, 3) := by decide +kernel
theorem dX5_look_274 : decode cX5_look 274 = .ok (.putfield 104, 3) := by decide +kernel
theorem dX5_look_277 : decode cX5_look 277 = .ok (.return_, 1) := by decide +kernel
theorem dX5_plain_0 : decode cX5_plain 0 = .ok (.lload_n 0, 1) := by decide +kernel
theorem dX5_plain_1 : decode cX5_plain 1 = .ok (.lconst 0, 1) := by decide +kernel
theorem dX5_plain_2 : decode cX5_plain 2 = .ok (.lcmp, 1) := by decide +kernel
theorem dX5_plain_3 : decode cX5_plain 3 = .ok (.ifCond .ge 8, 3) := by decide +kernel
theorem dX5_plain_6 : decode cX5_plain 6 = .ok (.lload_n 0, 1) := by decide +kernel
theorem dX5_plain_7 : decode cX5_plain 7 = .ok (.lneg, 1) := by decide +kernel
theorem dX5_plain_8 : decode cX5_plain 8 = .ok (.goto 4, 3) := by decide +kernel
theorem dX5_plain_11 : decode cX5_plain 11 = .ok (.lload_n 0, 1) := by decide +kernel
theorem dX5_plain_12 : decode cX5_plain 12 = .ok (.lreturn, 1) := by decide +kernel
theorem dX5_alerts_0 : decode cX5_alerts 0 = .ok (.aload_n 0, 1) := by decide +kernel
theorem dX5_alerts_1 : decode cX5_alerts 1 = .ok (.getfield 82, 3) := by decide +kernel
theorem dX5_alerts_4 : decode cX5_alerts 4 = .ok (.aload_n 0, 1) := by decide +kernel
theorem dX5_alerts_5 : decode cX5_alerts 5 = .ok (.getfield 82, 3) := by decide +kernel
theorem dX5_alerts_8 : decode cX5_alerts 8 = .ok (.lmul, 1) := by decide +kernel
theorem dX5_alerts_9 : decode cX5_alerts 9 = .ok (.aload_n 0, 1) := by decide +kernel
theorem dX5_alerts_10 : decode cX5_alerts 10 = .ok (.getfield 86, 3) := by decide +kernel
theorem dX5_alerts_13 : decode cX5_alerts 13 = .ok (.aload_n 0, 1) := by decide +kernel
theorem dX5_alerts_14 : decode cX5_alerts 14 = .ok (.getfield 86, 3) := by decide +kernel
theorem dX5_alerts_17 : decode cX5_alerts 17 = .ok (.lmul, 1) := by decide +kernel
theorem dX5_alerts_18 : decode cX5_alerts 18 = .ok (.ladd, 1) := by decide +kernel
theorem dX5_alerts_19 : decode cX5_alerts 19 = .ok (.lstore_n 1, 1) := by decide +kernel
theorem dX5_alerts_20 : decode cX5_alerts 20 = .ok (.aload_n 0, 1) := by decide +kernel
theorem dX5_alerts_21 : decode cX5_alerts 21 = .ok (.getfield 7, 3) := by decide +kernel
theorem dX5_alerts_24 : decode cX5_alerts 24 = .ok (.iconst 1, 1) := by decide +kernel
theorem dX5_alerts_25 : decode cX5_alerts 25 = .ok (.iaload, 1) := by decide +kernel
theorem dX5_alerts_26 : decode cX5_alerts 26 = .ok (.i2l, 1) := by decide +kernel
theorem dX5_alerts_27 : decode cX5_alerts 27 = .ok (.aload_n 0, 1) := by decide +kernel
theorem dX5_alerts_28 : decode cX5_alerts 28 = .ok (.getfield 7, 3) := by decide +kernel
theorem dX5_alerts_31 : decode cX5_alerts 31 = .ok (.iconst 1, 1) := by decide +kernel
theorem dX5_alerts_32 : decode cX5_alerts 32 = .ok (.iaload, 1) := by decide +kernel
theorem dX5_alerts_33 : decode cX5_alerts 33 = .ok (.i2l, 1) := by decide +kernel
theorem dX5_alerts_34 : decode cX5_alerts 34 = .ok (.lmul, 1) := by decide +kernel
theorem dX5_alerts_35 : decode cX5_alerts 35 = .ok (.lstore_n 3, 1) := by decide +kernel
theorem dX5_alerts_36 : decode cX5_alerts 36 = .ok (.lload_n 1, 1) := by decide +kernel
theorem dX5_alerts_37 : decode cX5_alerts 37 = .ok (.lload_n 3, 1) := by decide +kernel
theorem dX5_alerts_38 : decode cX5_alerts 38 = .ok (.lcmp, 1) := by decide +kernel
theorem dX5_alerts_39 : decode cX5_alerts 39 = .ok (.ifCond .le 101, 3) := by decide +kernel
theorem dX5_alerts_42 : decode cX5_alerts 42 = .ok (.aload_n 0, 1) := by decide +kernel
theorem dX5_alerts_43 : decode cX5_alerts 43 = .ok (.getfield 101, 3) := by decide +kernel
theorem dX5_alerts_46 : decode cX5_alerts 46 = .ok (.lconst 0, 1) := by decide +kernel
theorem dX5_alerts_47 : decode cX5_alerts 47 = .ok (.lcmp, 1) := by decide +kernel
theorem dX5_alerts_48 : decode cX5_alerts 48 = .ok (.ifCond .ge 23, 3) := by decide +kernel
theorem dX5_alerts_51 : decode cX5_alerts 51 = .ok (.lload_n 1, 1) := by decide +kernel
theorem dX5_alerts_52 : decode cX5_alerts 52 = .ok (.lload_n 3, 1) := by decide +kernel
theorem dX5_alerts_53 : decode cX5_alerts 53 = .ok (.lsub, 1) := by decide +kernel
theorem dX5_alerts_54 : decode cX5_alerts 54 = .ok (.aload_n 0, 1) := by decide +kernel
theorem dX5_alerts_55 : decode cX5_alerts 55 = .ok (.getfield 7, 3) := by decide +kernel
theorem dX5_alerts_58 : decode cX5_alerts 58 = .ok (.iconst 0, 1) := by decide +kernel
theorem dX5_alerts_59 : decode cX5_alerts 59 = .ok (.iaload, 1) := by decide +kernel
theorem dX5_alerts_60 : decode cX5_alerts 60 = .ok (.i2l, 1) := by decide +kernel
theorem dX5_alerts_61 : decode cX5_alerts 61 = .ok (.aload_n 0, 1) := by decide +kernel
theorem dX5_alerts_62 : decode cX5_alerts 62 = .ok (.getfield 101, 3) := by decide +kernel
theorem dX5_alerts_65 : decode cX5_alerts 65 = .ok (.lneg, 1) := by decide +kernel
theorem dX5_alerts_66 : decode cX5_alerts 66 = .ok (.lmul, 1) := by decide +kernel
theorem dX5_alerts_67 : decode cX5_alerts 67 = .ok (.lcmp, 1) := by decide +kernel
theorem dX5_alerts_68 : decode cX5_alerts 68 = .ok (.ifCond .le 5, 3) := by decide +kernel
theorem dX5_alerts_71 : decode cX5_alerts 71 = .ok (.iconst 0, 1) := by decide +kernel
theorem dX5_alerts_72 : decode cX5_alerts 72 = .ok (.ireturn, 1) := by decide +kernel
theorem dX5_alerts_73 : decode cX5_alerts 73 = .ok (.aload_n 0, 1) := by decide +kernel
theorem dX5_alerts_74 : decode cX5_alerts 74 = .ok (.getfield 82, 3) := by decide +kernel
theorem dX5_alerts_77 : decode cX5_alerts 77 = .ok (.aload_n 0, 1) := by decide +kernel
theorem dX5_alerts_78 : decode cX5_alerts 78 = .ok (.getfield 95, 3) := by decide +kernel
theorem dX5_alerts_81 : decode cX5_alerts 81 = .ok (.lmul, 1) := by decide +kernel
theorem dX5_alerts_82 : decode cX5_alerts 82 = .ok (.aload_n 0, 1) := by decide +kernel
theorem dX5_alerts_83 : decode cX5_alerts 83 = .ok (.getfield 86, 3) := by decide +kernel
theorem dX5_alerts_86 : decode cX5_alerts 86 = .ok (.aload_n 0, 1) := by decide +kernel
theorem dX5_alerts_87 : decode cX5_alerts 87 = .ok (.getfield 92, 3) := by decide +kernel
theorem dX5_alerts_90 : decode cX5_alerts 90 = .ok (.lmul, 1) := by decide +kernel
theorem dX5_alerts_91 : decode cX5_alerts 91 = .ok (.lsub, 1) := by decide +kernel
theorem dX5_alerts_92 : decode cX5_alerts 92 = .ok (.lstore 5, 2) := by decide +kernel
theorem dX5_alerts_94 : decode cX5_alerts 94 = .ok (.lload 5, 2) := by decide +kernel
theorem dX5_alerts_96 : decode cX5_alerts 96 = .ok (.lload 5, 2) := by decide +kernel
theorem dX5_alerts_98 : decode cX5_alerts 98 = .ok (.lmul, 1) := by decide +kernel
theorem dX5_alerts_99 : decode cX5_alerts 99 = .ok (.aload_n 0, 1) := by decide +kernel
theorem dX5_alerts_100 : decode cX5_alerts 100 = .ok (.getfield 7, 3) := by decide +kernel
theorem dX5_alerts_103 : decode cX5_alerts 103 = .ok (.iconst 2, 1) := by decide +kernel
theorem dX5_alerts_104 : decode cX5_alerts 104 = .ok (.iaload, 1) := by decide +kernel
theorem dX5_alerts_105 : decode cX5_alerts 105 = .ok (.i2l, 1) := by decide +kernel
theorem dX5_alerts_106 : decode cX5_alerts 106 = .ok (.aload_n 0, 1) := by decide +kernel
theorem dX5_alerts_107 : decode cX5_alerts 107 = .ok (.getfield 7, 3) := by decide +kernel
theorem dX5_alerts_110 : decode cX5_alerts 110 = .ok (.iconst 2, 1) := by decide +kernel
theorem dX5_alerts_111 : decode cX5_alerts 111 = .ok (.iaload, 1) := by decide +kernel
theorem dX5_alerts_112 : decode cX5_alerts 112 = .ok (.i2l, 1) := by decide +kernel
theorem dX5_alerts_113 : decode cX5_alerts 113 = .ok (.lmul, 1) := by decide +kernel
theorem dX5_alerts_114 : decode cX5_alerts 114 = .ok (.aload_n 0, 1) := by decide +kernel
theorem dX5_alerts_115 : decode cX5_alerts 115 = .ok (.getfield 92, 3) := by decide +kernel
theorem dX5_alerts_118 : decode cX5_alerts 118 = .ok (.aload_n 0, 1) := by decide +kernel
theorem dX5_alerts_119 : decode cX5_alerts 119 = .ok (.getfield 92, 3) := by decide +kernel
theorem dX5_alerts_122 : decode cX5_alerts 122 = .ok (.lmul, 1) := by decide +kernel
theorem dX5_alerts_123 : decode cX5_alerts 123 = .ok (.aload_n 0, 1) := by decide +kernel
theorem dX5_alerts_124 : decode cX5_alerts 124 = .ok (.getfield 95, 3) := by decide +kernel
theorem dX5_alerts_127 : decode cX5_alerts 127 = .ok (.aload_n 0, 1) := by decide +kernel
theorem dX5_alerts_128 : decode cX5_alerts 128 = .ok (.getfield 95, 3) := by decide +kernel
theorem dX5_alerts_131 : decode cX5_alerts 131 = .ok (.lmul, 1) := by decide +kernel
theorem dX5_alerts_132 : decode cX5_alerts 132 = .ok (.ladd, 1) := by decide +kernel
theorem dX5_alerts_133 : decode cX5_alerts 133 = .ok (.lmul, 1) := by decide +kernel
theorem dX5_alerts_134 : decode cX5_alerts 134 = .ok (.lcmp, 1) := by decide +kernel
theorem dX5_alerts_135 : decode cX5_alerts 135 = .ok (.ifCond .le 5, 3) := by decide +kernel
theorem dX5_alerts_138 : decode cX5_alerts 138 = .ok (.iconst 0, 1) := by decide +kernel
theorem dX5_alerts_139 : decode cX5_alerts 139 = .ok (.ireturn, 1) := by decide +kernel
theorem dX5_alerts_140 : decode cX5_alerts 140 = .ok (.aload_n 0, 1) := by decide +kernel
theorem dX5_alerts_141 : decode cX5_alerts 141 = .ok (.getfield 89, 3) := by decide +kernel
theorem dX5_alerts_144 : decode cX5_alerts 144 = .ok (.lconst 0, 1) := by decide +kernel
theorem dX5_alerts_145 : decode cX5_alerts 145 = .ok (.lcmp, 1) := by decide +kernel
theorem dX5_alerts_146 : decode cX5_alerts 146 = .ok (.ifCond .le 12, 3) := by decide +kernel
theorem dX5_alerts_149 : decode cX5_alerts 149 = .ok (.aload_n 0, 1) := by decide +kernel
theorem dX5_alerts_150 : decode cX5_alerts 150 = .ok (.getfield 98, 3) := by decide +kernel
theorem dX5_alerts_153 : decode cX5_alerts 153 = .ok (.lconst 0, 1) := by decide +kernel
theorem dX5_alerts_154 : decode cX5_alerts 154 = .ok (.lcmp, 1) := by decide +kernel
theorem dX5_alerts_155 : decode cX5_alerts 155 = .ok (.ifCond .lt 21, 3) := by decide +kernel
theorem dX5_alerts_158 : decode cX5_alerts 158 = .ok (.aload_n 0, 1) := by decide +kernel
theorem dX5_alerts_159 : decode cX5_alerts 159 = .ok (.getfield 89, 3) := by decide +kernel
theorem dX5_alerts_162 : decode cX5_alerts 162 = .ok (.lconst 0, 1) := by decide +kernel
theorem dX5_alerts_163 : decode cX5_alerts 163 = .ok (.lcmp, 1) := by decide +kernel
theorem dX5_alerts_164 : decode cX5_alerts 164 = .ok (.ifCond .ge 16, 3) := by decide +kernel
theorem dX5_alerts_167 : decode cX5_alerts 167 = .ok (.aload_n 0, 1) := by decide +kernel
theorem dX5_alerts_168 : decode cX5_alerts 168 = .ok (.getfield 98, 3) := by decide +kernel
theorem dX5_alerts_171 : decode cX5_alerts 171 = .ok (.lconst 0, 1) := by decide +kernel
theorem dX5_alerts_172 : decode cX5_alerts 172 = .ok (.lcmp, 1) := by decide +kernel
theorem dX5_alerts_173 : decode cX5_alerts 173 = .ok (.ifCond .le 7, 3) := by decide +kernel
theorem dX5_alerts_176 : decode cX5_alerts 176 = .ok (.iconst 1, 1) := by decide +kernel
theorem dX5_alerts_177 : decode cX5_alerts 177 = .ok (.goto 4, 3) := by decide +kernel
theorem dX5_alerts_180 : decode cX5_alerts 180 = .ok (.iconst 0, 1) := by decide +kernel
theorem dX5_alerts_181 : decode cX5_alerts 181 = .ok (.istore 5, 2) := by decide +kernel
theorem dX5_alerts_183 : decode cX5_alerts 183 = .ok (.aload_n 0, 1) := by decide +kernel
theorem dX5_alerts_184 : decode cX5_alerts 184 = .ok (.getfield 89, 3) := by decide +kernel
theorem dX5_alerts_187 : decode cX5_alerts 187 = .ok (.invokestatic 107, 3) := by decide +kernel
theorem dX5_alerts_190 : decode cX5_alerts 190 = .ok (.aload_n 0, 1) := by decide +kernel
theorem dX5_alerts_191 : decode cX5_alerts 191 = .ok (.getfield 7, 3) := by decide +kernel
theorem dX5_alerts_194 : decode cX5_alerts 194 = .ok (.iconst 3, 1) := by decide +kernel
theorem dX5_alerts_195 : decode cX5_alerts 195 = .ok (.iaload, 1) := by decide +kernel
theorem dX5_alerts_196 : decode cX5_alerts 196 = .ok (.i2l, 1) := by decide +kernel
theorem dX5_alerts_197 : decode cX5_alerts 197 = .ok (.lcmp, 1) := by decide +kernel
theorem dX5_alerts_198 : decode cX5_alerts 198 = .ok (.ifCond .le 34, 3) := by decide +kernel
theorem dX5_alerts_201 : decode cX5_alerts 201 = .ok (.iload 5, 2) := by decide +kernel
theorem dX5_alerts_203 : decode cX5_alerts 203 = .ok (.ifCond .eq 33, 3) := by decide +kernel
theorem dX5_alerts_206 : decode cX5_alerts 206 = .ok (.aload_n 0, 1) := by decide +kernel
theorem dX5_alerts_207 : decode cX5_alerts 207 = .ok (.getfield 89, 3) := by decide +kernel
theorem dX5_alerts_210 : decode cX5_alerts 210 = .ok (.invokestatic 107, 3) := by decide +kernel
theorem dX5_alerts_213 : decode cX5_alerts 213 = .ok (.aload_n 0, 1) := by decide +kernel
theorem dX5_alerts_214 : decode cX5_alerts 214 = .ok (.getfield 7, 3) := by decide +kernel
theorem dX5_alerts_217 : decode cX5_alerts 217 = .ok (.iconst 0, 1) := by decide +kernel
theorem dX5_alerts_218 : decode cX5_alerts 218 = .ok (.iaload, 1) := by decide +kernel
theorem dX5_alerts_219 : decode cX5_alerts 219 = .ok (.i2l, 1) := by decide +kernel
theorem dX5_alerts_220 : decode cX5_alerts 220 = .ok (.aload_n 0, 1) := by decide +kernel
theorem dX5_alerts_221 : decode cX5_alerts 221 = .ok (.getfield 98, 3) := by decide +kernel
theorem dX5_alerts_224 : decode cX5_alerts 224 = .ok (.invokestatic 107, 3) := by decide +kernel
theorem dX5_alerts_227 : decode cX5_alerts 227 = .ok (.lmul, 1) := by decide +kernel
theorem dX5_alerts_228 : decode cX5_alerts 228 = .ok (.lcmp, 1) := by decide +kernel
theorem dX5_alerts_229 : decode cX5_alerts 229 = .ok (.ifCond .gt 7, 3) := by decide +kernel
theorem dX5_alerts_232 : decode cX5_alerts 232 = .ok (.iconst 1, 1) := by decide +kernel
theorem dX5_alerts_233 : decode cX5_alerts 233 = .ok (.goto 4, 3) := by decide +kernel
theorem dX5_alerts_236 : decode cX5_alerts 236 = .ok (.iconst 0, 1) := by decide +kernel
theorem dX5_alerts_237 : decode cX5_alerts 237 = .ok (.ireturn, 1) := by decide +kernel
theorem dX5_height_0 : decode cX5_height 0 = .ok (.aload_n 0, 1) := by decide +kernel
theorem dX5_height_1 : decode cX5_height 1 = .ok (.getfield 104, 3) := by decide +kernel
theorem dX5_height_4 : decode cX5_height 4 = .ok (.aload_n 0, 1) := by decide +kernel
theorem dX5_height_5 : decode cX5_height 5 = .ok (.getfield 7, 3) := by decide +kernel
theorem dX5_height_8 : decode cX5_height 8 = .ok (.iconst 5, 1) := by decide +kernel
theorem dX5_height_9 : decode cX5_height 9 = .ok (.iaload, 1) := by decide +kernel
theorem dX5_height_10 : decode cX5_height 10 = .ok (.i2l, 1) := by decide +kernel
theorem dX5_height_11 : decode cX5_height 11 = .ok (.lcmp, 1) := by decide +kernel
theorem dX5_height_12 : decode cX5_height 12 = .ok (.ifCond .ge 10, 3) := by decide +kernel
theorem dX5_height_15 : decode cX5_height 15 = .ok (.aload_n 0, 1) := by decide +kernel
theorem dX5_height_16 : decode cX5_height 16 = .ok (.getfield 104, 3) := by decide +kernel
theorem dX5_height_19 : decode cX5_height 19 = .ok (.goto 10, 3) := by decide +kernel
theorem dX5_height_22 : decode cX5_height 22 = .ok (.aload_n 0, 1) := by decide +kernel
theorem dX5_height_23 : decode cX5_height 23 = .ok (.getfield 7, 3) := by decide +kernel
theorem dX5_height_26 : decode cX5_height 26 = .ok (.iconst 5, 1) := by decide +kernel
theorem dX5_height_27 : decode cX5_height 27 = .ok (.iaload, 1) := by decide +kernel
theorem dX5_height_28 : decode cX5_height 28 = .ok (.i2l, 1) := by decide +kernel
theorem dX5_height_29 : decode cX5_height 29 = .ok (.iload 4, 2) := by decide +kernel
theorem dX5_height_31 : decode cX5_height 31 = .ok (.i2l, 1) := by decide +kernel
theorem dX5_height_32 : decode cX5_height 32 = .ok (.lsub, 1) := by decide +kernel
theorem dX5_height_33 : decode cX5_height 33 = .ok (.lstore 5, 2) := by decide +kernel
theorem dX5_height_35 : decode cX5_height 35 = .ok (.lload 5, 2) := by decide +kernel
theorem dX5_height_37 : decode cX5_height 37 = .ok (.lconst 0, 1) := by decide +kernel
theorem dX5_height_38 : decode cX5_height 38 = .ok (.lcmp, 1) := by decide +kernel
theorem dX5_height_39 : decode cX5_height 39 = .ok (.ifCond .ge 7, 3) := by decide +kernel
theorem dX5_height_42 : decode cX5_height 42 = .ok (.lconst 0, 1) := by decide +kernel
theorem dX5_height_43 : decode cX5_height 43 = .ok (.goto 5, 3) := by decide +kernel
theorem dX5_height_46 : decode cX5_height 46 = .ok (.lload 5, 2) := by decide +kernel
theorem dX5_height_48 : decode cX5_height 48 = .ok (.lstore 5, 2) := by decide +kernel
theorem dX5_height_50 : decode cX5_height 50 = .ok (.aload_n 0, 1) := by decide +kernel
theorem dX5_height_51 : decode cX5_height 51 = .ok (.getfield 20, 3) := by decide +kernel
theorem dX5_height_54 : decode cX5_height 54 = .ok (.bipush 6, 2) := by decide +kernel
theorem dX5_height_56 : decode cX5_height 56 = .ok (.iload_n 1, 1) := by decide +kernel
theorem dX5_height_57 : decode cX5_height 57 = .ok (.imul, 1) := by decide +kernel
theorem dX5_height_58 : decode cX5_height 58 = .ok (.iconst 5, 1) := by decide +kernel
theorem dX5_height_59 : decode cX5_height 59 = .ok (.iadd, 1) := by decide +kernel
theorem dX5_height_60 : decode cX5_height 60 = .ok (.iaload, 1) := by decide +kernel
theorem dX5_height_61 : decode cX5_height 61 = .ok (.i2l, 1) := by decide +kernel
theorem dX5_height_62 : decode cX5_height 62 = .ok (.lstore 7, 2) := by decide +kernel
theorem dX5_height_64 : decode cX5_height 64 = .ok (.iload_n 2, 1) := by decide +kernel
theorem dX5_height_65 : decode cX5_height 65 = .ok (.ifCond .eq 12, 3) := by decide +kernel
theorem dX5_height_68 : decode cX5_height 68 = .ok (.ldc2_w 111, 3) := by decide +kernel
theorem dX5_height_71 : decode cX5_height 71 = .ok (.iload_n 3, 1) := by decide +kernel
theorem dX5_height_72 : decode cX5_height 72 = .ok (.i2l, 1) := by decide +kernel
theorem dX5_height_73 : decode cX5_height 73 = .ok (.lmul, 1) := by decide +kernel
theorem dX5_height_74 : decode cX5_height 74 = .ok (.goto 9, 3) := by decide +kernel
theorem dX5_height_77 : decode cX5_height 77 = .ok (.ldc2_w 113, 3) := by decide +kernel
theorem dX5_height_80 : decode cX5_height 80 = .ok (.iload_n 3, 1) := by decide +kernel
theorem dX5_height_81 : decode cX5_height 81 = .ok (.i2l, 1) := by decide +kernel
theorem dX5_height_82 : decode cX5_height 82 = .ok (.lmul, 1) := by decide +kernel
theorem dX5_height_83 : decode cX5_height 83 = .ok (.lstore 9, 2) := by decide +kernel
theorem dX5_height_85 : decode cX5_height 85 = .ok (.iload_n 2, 1) := by decide +kernel
theorem dX5_height_86 : decode cX5_height 86 = .ok (.ifCond .eq 21, 3) := by decide +kernel
theorem dX5_height_89 : decode cX5_height 89 = .ok (.lload 7, 2) := by decide +kernel
theorem dX5_height_91 : decode cX5_height 91 = .ok (.lload 9, 2) := by decide +kernel
theorem dX5_height_93 : decode cX5_height 93 = .ok (.lcmp, 1) := by decide +kernel
theorem dX5_height_94 : decode cX5_height 94 = .ok (.ifCond .le 8, 3) := by decide +kernel
theorem dX5_height_97 : decode cX5_height 97 = .ok (.lload 7, 2) := by decide +kernel
theorem dX5_height_99 : decode cX5_height 99 = .ok (.goto 23, 3) := by decide +kernel
theorem dX5_height_102 : decode cX5_height 102 = .ok (.lload 9, 2) := by decide +kernel
theorem dX5_height_104 : decode cX5_height 104 = .ok (.goto 18, 3) := by decide +kernel
theorem dX5_height_107 : decode cX5_height 107 = .ok (.lload 7, 2) := by decide +kernel
theorem dX5_height_109 : decode cX5_height 109 = .ok (.lload 9, 2) := by decide +kernel
theorem dX5_height_111 : decode cX5_height 111 = .ok (.lcmp, 1) := by decide +kernel
theorem dX5_height_112 : decode cX5_height 112 = .ok (.ifCond .ge 8, 3) := by decide +kernel
theorem dX5_height_115 : decode cX5_height 115 = .ok (.lload 7, 2) := by decide +kernel
theorem dX5_height_117 : decode cX5_height 117 = .ok (.goto 5, 3) := by decide +kernel
theorem dX5_height_120 : decode cX5_height 120 = .ok (.lload 9, 2) := by decide +kernel
theorem dX5_height_122 : decode cX5_height 122 = .ok (.lstore 11, 2) := by decide +kernel
theorem dX5_height_124 : decode cX5_height 124 = .ok (.aload_n 0, 1) := by decide +kernel
theorem dX5_height_125 : decode cX5_height 125 = .ok (.getfield 20, 3) := by decide +kernel
theorem dX5_height_128 : decode cX5_height 128 = .ok (.bipush 6, 2) := by decide +kernel
theorem dX5_height_130 : decode cX5_height 130 = .ok (.iload_n 1, 1) := by decide +kernel
theorem dX5_height_131 : decode cX5_height 131 = .ok (.imul, 1) := by decide +kernel
theorem dX5_height_132 : decode cX5_height 132 = .ok (.iconst 2, 1) := by decide +kernel
theorem dX5_height_133 : decode cX5_height 133 = .ok (.iadd, 1) := by decide +kernel
theorem dX5_height_134 : decode cX5_height 134 = .ok (.iaload, 1) := by decide +kernel
theorem dX5_height_135 : decode cX5_height 135 = .ok (.i2l, 1) := by decide +kernel
theorem dX5_height_136 : decode cX5_height 136 = .ok (.lload 7, 2) := by decide +kernel
theorem dX5_height_138 : decode cX5_height 138 = .ok (.lload 5, 2) := by decide +kernel
theorem dX5_height_140 : decode cX5_height 140 = .ok (.lmul, 1) := by decide +kernel
theorem dX5_height_141 : decode cX5_height 141 = .ok (.ladd, 1) := by decide +kernel
theorem dX5_height_142 : decode cX5_height 142 = .ok (.lload 11, 2) := by decide +kernel
theorem dX5_height_144 : decode cX5_height 144 = .ok (.aload_n 0, 1) := by decide +kernel
theorem dX5_height_145 : decode cX5_height 145 = .ok (.getfield 104, 3) := by decide +kernel
theorem dX5_height_148 : decode cX5_height 148 = .ok (.lload 5, 2) := by decide +kernel
theorem dX5_height_150 : decode cX5_height 150 = .ok (.lsub, 1) := by decide +kernel
theorem dX5_height_151 : decode cX5_height 151 = .ok (.lmul, 1) := by decide +kernel
theorem dX5_height_152 : decode cX5_height 152 = .ok (.ladd, 1) := by decide +kernel
theorem dX5_height_153 : decode cX5_height 153 = .ok (.lreturn, 1) := by decide +kernel
theorem dX5_part_0 : decode cX5_part 0 = .ok (.aload_n 0, 1) := by decide +kernel
theorem dX5_part_1 : decode cX5_part 1 = .ok (.aload_n 0, 1) := by decide +kernel
theorem dX5_part_2 : decode cX5_part 2 = .ok (.getfield 76, 3) := by decide +kernel
theorem dX5_part_5 : decode cX5_part 5 = .ok (.iload_n 1, 1) := by decide +kernel
theorem dX5_part_6 : decode cX5_part 6 = .ok (.iconst 1, 1) := by decide +kernel
theorem dX5_part_7 : decode cX5_part 7 = .ok (.if_icmp .ne 7, 3) := by decide +kernel
theorem dX5_part_10 : decode cX5_part 10 = .ok (.iconst 1, 1) := by decide +kernel
theorem dX5_part_11 : decode cX5_part 11 = .ok (.goto 4, 3) := by decide +kernel
theorem dX5_part_14 : decode cX5_part 14 = .ok (.iconst 0, 1) := by decide +kernel
theorem dX5_part_15 : decode cX5_part 15 = .ok (.iload_n 2, 1) := by decide +kernel
theorem dX5_part_16 : decode cX5_part 16 = .ok (.iload_n 3, 1) := by decide +kernel
theorem dX5_part_17 : decode cX5_part 17 = .ok (.invokevirtual 115, 3) := by decide +kernel
theorem dX5_part_20 : decode cX5_part 20 = .ok (.lstore 4, 2) := by decide +kernel
theorem dX5_part_22 : decode cX5_part 22 = .ok (.aload_n 0, 1) := by decide +kernel
theorem dX5_part_23 : decode cX5_part 23 = .ok (.aload_n 0, 1) := by decide +kernel
theorem dX5_part_24 : decode cX5_part 24 = .ok (.getfield 79, 3) := by decide +kernel
theorem dX5_part_27 : decode cX5_part 27 = .ok (.iload_n 1, 1) := by decide +kernel
theorem dX5_part_28 : decode cX5_part 28 = .ok (.iconst 2, 1) := by decide +kernel
theorem dX5_part_29 : decode cX5_part 29 = .ok (.if_icmp .ne 7, 3) := by decide +kernel
theorem dX5_part_32 : decode cX5_part 32 = .ok (.iconst 1, 1) := by decide +kernel
theorem dX5_part_33 : decode cX5_part 33 = .ok (.goto 4, 3) := by decide +kernel
theorem dX5_part_36 : decode cX5_part 36 = .ok (.iconst 0, 1) := by decide +kernel
theorem dX5_part_37 : decode cX5_part 37 = .ok (.iload_n 2, 1) := by decide +kernel
theorem dX5_part_38 : decode cX5_part 38 = .ok (.iload_n 3, 1) := by decide +kernel
theorem dX5_part_39 : decode cX5_part 39 = .ok (.invokevirtual 115, 3) := by decide +kernel
theorem dX5_part_42 : decode cX5_part 42 = .ok (.lstore 6, 2) := by decide +kernel
theorem dX5_part_44 : decode cX5_part 44 = .ok (.iload_n 1, 1) := by decide +kernel
theorem dX5_part_45 : decode cX5_part 45 = .ok (.iconst 1, 1) := by decide +kernel
theorem dX5_part_46 : decode cX5_part 46 = .ok (.if_icmp .ne 11, 3) := by decide +kernel
theorem dX5_part_49 : decode cX5_part 49 = .ok (.lload 4, 2) := by decide +kernel
theorem dX5_part_51 : decode cX5_part 51 = .ok (.lload 6, 2) := by decide +kernel
theorem dX5_part_53 : decode cX5_part 53 = .ok (.lsub, 1) := by decide +kernel
theorem dX5_part_54 : decode cX5_part 54 = .ok (.goto 8, 3) := by decide +kernel
theorem dX5_part_57 : decode cX5_part 57 = .ok (.lload 6, 2) := by decide +kernel
theorem dX5_part_59 : decode cX5_part 59 = .ok (.lload 4, 2) := by decide +kernel
theorem dX5_part_61 : decode cX5_part 61 = .ok (.lsub, 1) := by decide +kernel
theorem dX5_part_62 : decode cX5_part 62 = .ok (.lreturn, 1) := by decide +kernel
theorem dX5_enough_0 : decode cX5_enough 0 = .ok (.iload_n 2, 1) := by decide +kernel
theorem dX5_enough_1 : decode cX5_enough 1 = .ok (.istore 4, 2) := by decide +kernel
theorem dX5_enough_3 : decode cX5_enough 3 = .ok (.iload 4, 2) := by decide +kernel
theorem dX5_enough_5 : decode cX5_enough 5 = .ok (.iconst 4, 1) := by decide +kernel
theorem dX5_enough_6 : decode cX5_enough 6 = .ok (.if_icmp .ge 28, 3) := by decide +kernel
theorem dX5_enough_9 : decode cX5_enough 9 = .ok (.aload_n 0, 1) := by decide +kernel
theorem dX5_enough_10 : decode cX5_enough 10 = .ok (.iload_n 1, 1) := by decide +kernel
theorem dX5_enough_11 : decode cX5_enough 11 = .ok (.iload 4, 2) := by decide +kernel
theorem dX5_enough_13 : decode cX5_enough 13 = .ok (.iload_n 3, 1) := by decide +kernel
theorem dX5_enough_14 : decode cX5_enough 14 = .ok (.invokevirtual 119, 3) := by decide +kernel
theorem dX5_enough_17 : decode cX5_enough 17 = .ok (.aload_n 0, 1) := by decide +kernel
theorem dX5_enough_18 : decode cX5_enough 18 = .ok (.getfield 7, 3) := by decide +kernel
theorem dX5_enough_21 : decode cX5_enough 21 = .ok (.iconst 4, 1) := by decide +kernel
theorem dX5_enough_22 : decode cX5_enough 22 = .ok (.iaload, 1) := by decide +kernel
theorem dX5_enough_23 : decode cX5_enough 23 = .ok (.i2l, 1) := by decide +kernel
theorem dX5_enough_24 : decode cX5_enough 24 = .ok (.lcmp, 1) := by decide +kernel
theorem dX5_enough_25 : decode cX5_enough 25 = .ok (.ifCond .ge 9, 3) := by decide +kernel
theorem dX5_enough_28 : decode cX5_enough 28 = .ok (.iinc 4 1, 3) := by decide +kernel
theorem dX5_enough_31 : decode cX5_enough 31 = .ok (.goto (-28), 3) := by decide +kernel
theorem dX5_enough_34 : decode cX5_enough 34 = .ok (.iload 4, 2) := by decide +kernel
theorem dX5_enough_36 : decode cX5_enough 36 = .ok (.ireturn, 1) := by decide +kernel
theorem dX5_chosen_0 : decode cX5_chosen 0 = .ok (.aload_n 0, 1) := by decide +kernel
theorem dX5_chosen_1 : decode cX5_chosen 1 = .ok (.iconst 1, 1) := by decide +kernel
theorem dX5_chosen_2 : decode cX5_chosen 2 = .ok (.iconst 1, 1) := by decide +kernel
theorem dX5_chosen_3 : decode cX5_chosen 3 = .ok (.iconst 0, 1) := by decide +kernel
theorem dX5_chosen_4 : decode cX5_chosen 4 = .ok (.invokevirtual 123, 3) := by decide +kernel
theorem dX5_chosen_7 : decode cX5_chosen 7 = .ok (.istore_n 1, 1) := by decide +kernel
theorem dX5_chosen_8 : decode cX5_chosen 8 = .ok (.aload_n 0, 1) := by decide +kernel
theorem dX5_chosen_9 : decode cX5_chosen 9 = .ok (.iconst 2, 1) := by decide +kernel
theorem dX5_chosen_10 : decode cX5_chosen 10 = .ok (.iconst 1, 1) := by decide +kernel
theorem dX5_chosen_11 : decode cX5_chosen 11 = .ok (.iconst 0, 1) := by decide +kernel
theorem dX5_chosen_12 : decode cX5_chosen 12 = .ok (.invokevirtual 123, 3) := by decide +kernel
theorem dX5_chosen_15 : decode cX5_chosen 15 = .ok (.istore_n 2, 1) := by decide +kernel
theorem dX5_chosen_16 : decode cX5_chosen 16 = .ok (.iload_n 1, 1) := by decide +kernel
theorem dX5_chosen_17 : decode cX5_chosen 17 = .ok (.iload_n 2, 1) := by decide +kernel
theorem dX5_chosen_18 : decode cX5_chosen 18 = .ok (.if_icmp .eq 14, 3) := by decide +kernel
theorem dX5_chosen_21 : decode cX5_chosen 21 = .ok (.iload_n 1, 1) := by decide +kernel
theorem dX5_chosen_22 : decode cX5_chosen 22 = .ok (.iload_n 2, 1) := by decide +kernel
theorem dX5_chosen_23 : decode cX5_chosen 23 = .ok (.if_icmp .ge 7, 3) := by decide +kernel
theorem dX5_chosen_26 : decode cX5_chosen 26 = .ok (.iconst 1, 1) := by decide +kernel
theorem dX5_chosen_27 : decode cX5_chosen 27 = .ok (.goto 4, 3) := by decide +kernel
theorem dX5_chosen_30 : decode cX5_chosen 30 = .ok (.iconst 2, 1) := by decide +kernel
theorem dX5_chosen_31 : decode cX5_chosen 31 = .ok (.ireturn, 1) := by decide +kernel
theorem dX5_chosen_32 : decode cX5_chosen 32 = .ok (.aload_n 0, 1) := by decide +kernel
theorem dX5_chosen_33 : decode cX5_chosen 33 = .ok (.iconst 1, 1) := by decide +kernel
theorem dX5_chosen_34 : decode cX5_chosen 34 = .ok (.iload_n 1, 1) := by decide +kernel
theorem dX5_chosen_35 : decode cX5_chosen 35 = .ok (.iconst 0, 1) := by decide +kernel
theorem dX5_chosen_36 : decode cX5_chosen 36 = .ok (.invokevirtual 119, 3) := by decide +kernel
theorem dX5_chosen_39 : decode cX5_chosen 39 = .ok (.lstore_n 3, 1) := by decide +kernel
theorem dX5_chosen_40 : decode cX5_chosen 40 = .ok (.aload_n 0, 1) := by decide +kernel
theorem dX5_chosen_41 : decode cX5_chosen 41 = .ok (.iconst 2, 1) := by decide +kernel
theorem dX5_chosen_42 : decode cX5_chosen 42 = .ok (.iload_n 2, 1) := by decide +kernel
theorem dX5_chosen_43 : decode cX5_chosen 43 = .ok (.iconst 0, 1) := by decide +kernel
theorem dX5_chosen_44 : decode cX5_chosen 44 = .ok (.invokevirtual 119, 3) := by decide +kernel
theorem dX5_chosen_47 : decode cX5_chosen 47 = .ok (.lstore 5, 2) := by decide +kernel
theorem dX5_chosen_49 : decode cX5_chosen 49 = .ok (.lload_n 3, 1) := by decide +kernel
theorem dX5_chosen_50 : decode cX5_chosen 50 = .ok (.lload 5, 2) := by decide +kernel
theorem dX5_chosen_52 : decode cX5_chosen 52 = .ok (.lcmp, 1) := by decide +kernel
theorem dX5_chosen_53 : decode cX5_chosen 53 = .ok (.ifCond .eq 16, 3) := by decide +kernel
theorem dX5_chosen_56 : decode cX5_chosen 56 = .ok (.lload_n 3, 1) := by decide +kernel
theorem dX5_chosen_57 : decode cX5_chosen 57 = .ok (.lload 5, 2) := by decide +kernel
theorem dX5_chosen_59 : decode cX5_chosen 59 = .ok (.lcmp, 1) := by decide +kernel
theorem dX5_chosen_60 : decode cX5_chosen 60 = .ok (.ifCond .le 7, 3) := by decide +kernel
theorem dX5_chosen_63 : decode cX5_chosen 63 = .ok (.iconst 1, 1) := by decide +kernel
theorem dX5_chosen_64 : decode cX5_chosen 64 = .ok (.goto 4, 3) := by decide +kernel
theorem dX5_chosen_67 : decode cX5_chosen 67 = .ok (.iconst 2, 1) := by decide +kernel
theorem dX5_chosen_68 : decode cX5_chosen 68 = .ok (.ireturn, 1) := by decide +kernel
theorem dX5_chosen_69 : decode cX5_chosen 69 = .ok (.aload_n 0, 1) := by decide +kernel
theorem dX5_chosen_70 : decode cX5_chosen 70 = .ok (.getfield 89, 3) := by decide +kernel
theorem dX5_chosen_73 : decode cX5_chosen 73 = .ok (.lconst 0, 1) := by decide +kernel
theorem dX5_chosen_74 : decode cX5_chosen 74 = .ok (.lcmp, 1) := by decide +kernel
theorem dX5_chosen_75 : decode cX5_chosen 75 = .ok (.ifCond .gt 7, 3) := by decide +kernel
theorem dX5_chosen_78 : decode cX5_chosen 78 = .ok (.iconst 1, 1) := by decide +kernel
theorem dX5_chosen_79 : decode cX5_chosen 79 = .ok (.goto 4, 3) := by decide +kernel
theorem dX5_chosen_82 : decode cX5_chosen 82 = .ok (.iconst 2, 1) := by decide +kernel
theorem dX5_chosen_83 : decode cX5_chosen 83 = .ok (.ireturn, 1) := by decide +kernel
theorem dX5_bounded_0 : decode cX5_bounded 0 = .ok (.iload_n 0, 1) := by decide +kernel
theorem dX5_bounded_1 : decode cX5_bounded 1 = .ok (.iload_n 1, 1) := by decide +kernel
theorem dX5_bounded_2 : decode cX5_bounded 2 = .ok (.ineg, 1) := by decide +kernel
theorem dX5_bounded_3 : decode cX5_bounded 3 = .ok (.if_icmp .ge 8, 3) := by decide +kernel
theorem dX5_bounded_6 : decode cX5_bounded 6 = .ok (.iload_n 1, 1) := by decide +kernel
theorem dX5_bounded_7 : decode cX5_bounded 7 = .ok (.ineg, 1) := by decide +kernel
theorem dX5_bounded_8 : decode cX5_bounded 8 = .ok (.goto 13, 3) := by decide +kernel
theorem dX5_bounded_11 : decode cX5_bounded 11 = .ok (.iload_n 0, 1) := by decide +kernel
theorem dX5_bounded_12 : decode cX5_bounded 12 = .ok (.iload_n 1, 1) := by decide +kernel
theorem dX5_bounded_13 : decode cX5_bounded 13 = .ok (.if_icmp .le 7, 3) := by decide +kernel
theorem dX5_bounded_16 : decode cX5_bounded 16 = .ok (.iload_n 1, 1) := by decide +kernel
theorem dX5_bounded_17 : decode cX5_bounded 17 = .ok (.goto 4, 3) := by decide +kernel
theorem dX5_bounded_20 : decode cX5_bounded 20 = .ok (.iload_n 0, 1) := by decide +kernel
theorem dX5_bounded_21 : decode cX5_bounded 21 = .ok (.ireturn, 1) := by decide +kernel
theorem dX5_move_0 : decode cX5_move 0 = .ok (.iconst 0, 1) := by decide +kernel
theorem dX5_move_1 : decode cX5_move 1 = .ok (.istore_n 1, 1) := by decide +kernel
theorem dX5_move_2 : decode cX5_move 2 = .ok (.iload_n 1, 1) := by decide +kernel
theorem dX5_move_3 : decode cX5_move 3 = .ok (.bipush 6, 2) := by decide +kernel
theorem dX5_move_5 : decode cX5_move 5 = .ok (.if_icmp .ge 132, 3) := by decide +kernel
theorem dX5_move_8 : decode cX5_move 8 = .ok (.aload_n 0, 1) := by decide +kernel
theorem dX5_move_9 : decode cX5_move 9 = .ok (.getfield 13, 3) := by decide +kernel
theorem dX5_move_12 : decode cX5_move 12 = .ok (.iload_n 1, 1) := by decide +kernel
theorem dX5_move_13 : decode cX5_move 13 = .ok (.baload, 1) := by decide +kernel
theorem dX5_move_14 : decode cX5_move 14 = .ok (.ifCond .eq 117, 3) := by decide +kernel
theorem dX5_move_17 : decode cX5_move 17 = .ok (.aload_n 0, 1) := by decide +kernel
theorem dX5_move_18 : decode cX5_move 18 = .ok (.getfield 20, 3) := by decide +kernel
theorem dX5_move_21 : decode cX5_move 21 = .ok (.bipush 6, 2) := by decide +kernel
theorem dX5_move_23 : decode cX5_move 23 = .ok (.iload_n 1, 1) := by decide +kernel
theorem dX5_move_24 : decode cX5_move 24 = .ok (.imul, 1) := by decide +kernel
theorem dX5_move_25 : decode cX5_move 25 = .ok (.aload_n 0, 1) := by decide +kernel
theorem dX5_move_26 : decode cX5_move 26 = .ok (.getfield 20, 3) := by decide +kernel
theorem dX5_move_29 : decode cX5_move 29 = .ok (.bipush 6, 2) := by decide +kernel
theorem dX5_move_31 : decode cX5_move 31 = .ok (.iload_n 1, 1) := by decide +kernel
theorem dX5_move_32 : decode cX5_move 32 = .ok (.imul, 1) := by decide +kernel
theorem dX5_move_33 : decode cX5_move 33 = .ok (.iaload, 1) := by decide +kernel
theorem dX5_move_34 : decode cX5_move 34 = .ok (.aload_n 0, 1) := by decide +kernel
theorem dX5_move_35 : decode cX5_move 35 = .ok (.getfield 20, 3) := by decide +kernel
theorem dX5_move_38 : decode cX5_move 38 = .ok (.bipush 6, 2) := by decide +kernel
theorem dX5_move_40 : decode cX5_move 40 = .ok (.iload_n 1, 1) := by decide +kernel
theorem dX5_move_41 : decode cX5_move 41 = .ok (.imul, 1) := by decide +kernel
theorem dX5_move_42 : decode cX5_move 42 = .ok (.iconst 3, 1) := by decide +kernel
theorem dX5_move_43 : decode cX5_move 43 = .ok (.iadd, 1) := by decide +kernel
theorem dX5_move_44 : decode cX5_move 44 = .ok (.iaload, 1) := by decide +kernel
theorem dX5_move_45 : decode cX5_move 45 = .ok (.iadd, 1) := by decide +kernel
theorem dX5_move_46 : decode cX5_move 46 = .ok (.ldc 57, 2) := by decide +kernel
theorem dX5_move_48 : decode cX5_move 48 = .ok (.invokestatic 127, 3) := by decide +kernel
theorem dX5_move_51 : decode cX5_move 51 = .ok (.iastore, 1) := by decide +kernel
theorem dX5_move_52 : decode cX5_move 52 = .ok (.aload_n 0, 1) := by decide +kernel
theorem dX5_move_53 : decode cX5_move 53 = .ok (.getfield 20, 3) := by decide +kernel
theorem dX5_move_56 : decode cX5_move 56 = .ok (.bipush 6, 2) := by decide +kernel
theorem dX5_move_58 : decode cX5_move 58 = .ok (.iload_n 1, 1) := by decide +kernel
theorem dX5_move_59 : decode cX5_move 59 = .ok (.imul, 1) := by decide +kernel
theorem dX5_move_60 : decode cX5_move 60 = .ok (.iconst 1, 1) := by decide +kernel
theorem dX5_move_61 : decode cX5_move 61 = .ok (.iadd, 1) := by decide +kernel
theorem dX5_move_62 : decode cX5_move 62 = .ok (.aload_n 0, 1) := by decide +kernel
theorem dX5_move_63 : decode cX5_move 63 = .ok (.getfield 20, 3) := by decide +kernel
theorem dX5_move_66 : decode cX5_move 66 = .ok (.bipush 6, 2) := by decide +kernel
theorem dX5_move_68 : decode cX5_move 68 = .ok (.iload_n 1, 1) := by decide +kernel
theorem dX5_move_69 : decode cX5_move 69 = .ok (.imul, 1) := by decide +kernel
theorem dX5_move_70 : decode cX5_move 70 = .ok (.iconst 1, 1) := by decide +kernel
theorem dX5_move_71 : decode cX5_move 71 = .ok (.iadd, 1) := by decide +kernel
theorem dX5_move_72 : decode cX5_move 72 = .ok (.iaload, 1) := by decide +kernel
theorem dX5_move_73 : decode cX5_move 73 = .ok (.aload_n 0, 1) := by decide +kernel
theorem dX5_move_74 : decode cX5_move 74 = .ok (.getfield 20, 3) := by decide +kernel
theorem dX5_move_77 : decode cX5_move 77 = .ok (.bipush 6, 2) := by decide +kernel
theorem dX5_move_79 : decode cX5_move 79 = .ok (.iload_n 1, 1) := by decide +kernel
theorem dX5_move_80 : decode cX5_move 80 = .ok (.imul, 1) := by decide +kernel
theorem dX5_move_81 : decode cX5_move 81 = .ok (.iconst 4, 1) := by decide +kernel
theorem dX5_move_82 : decode cX5_move 82 = .ok (.iadd, 1) := by decide +kernel
theorem dX5_move_83 : decode cX5_move 83 = .ok (.iaload, 1) := by decide +kernel
theorem dX5_move_84 : decode cX5_move 84 = .ok (.iadd, 1) := by decide +kernel
theorem dX5_move_85 : decode cX5_move 85 = .ok (.ldc 57, 2) := by decide +kernel
theorem dX5_move_87 : decode cX5_move 87 = .ok (.invokestatic 127, 3) := by decide +kernel
theorem dX5_move_90 : decode cX5_move 90 = .ok (.iastore, 1) := by decide +kernel
theorem dX5_move_91 : decode cX5_move 91 = .ok (.aload_n 0, 1) := by decide +kernel
theorem dX5_move_92 : decode cX5_move 92 = .ok (.getfield 20, 3) := by decide +kernel
theorem dX5_move_95 : decode cX5_move 95 = .ok (.bipush 6, 2) := by decide +kernel
theorem dX5_move_97 : decode cX5_move 97 = .ok (.iload_n 1, 1) := by decide +kernel
theorem dX5_move_98 : decode cX5_move 98 = .ok (.imul, 1) := by decide +kernel
theorem dX5_move_99 : decode cX5_move 99 = .ok (.iconst 2, 1) := by decide +kernel
theorem dX5_move_100 : decode cX5_move 100 = .ok (.iadd, 1) := by decide +kernel
theorem dX5_move_101 : decode cX5_move 101 = .ok (.aload_n 0, 1) := by decide +kernel
theorem dX5_move_102 : decode cX5_move 102 = .ok (.getfield 20, 3) := by decide +kernel
theorem dX5_move_105 : decode cX5_move 105 = .ok (.bipush 6, 2) := by decide +kernel
theorem dX5_move_107 : decode cX5_move 107 = .ok (.iload_n 1, 1) := by decide +kernel
theorem dX5_move_108 : decode cX5_move 108 = .ok (.imul, 1) := by decide +kernel
theorem dX5_move_109 : decode cX5_move 109 = .ok (.iconst 2, 1) := by decide +kernel
theorem dX5_move_110 : decode cX5_move 110 = .ok (.iadd, 1) := by decide +kernel
theorem dX5_move_111 : decode cX5_move 111 = .ok (.iaload, 1) := by decide +kernel
theorem dX5_move_112 : decode cX5_move 112 = .ok (.aload_n 0, 1) := by decide +kernel
theorem dX5_move_113 : decode cX5_move 113 = .ok (.getfield 20, 3) := by decide +kernel
theorem dX5_move_116 : decode cX5_move 116 = .ok (.bipush 6, 2) := by decide +kernel
theorem dX5_move_118 : decode cX5_move 118 = .ok (.iload_n 1, 1) := by decide +kernel
theorem dX5_move_119 : decode cX5_move 119 = .ok (.imul, 1) := by decide +kernel
theorem dX5_move_120 : decode cX5_move 120 = .ok (.iconst 5, 1) := by decide +kernel
theorem dX5_move_121 : decode cX5_move 121 = .ok (.iadd, 1) := by decide +kernel
theorem dX5_move_122 : decode cX5_move 122 = .ok (.iaload, 1) := by decide +kernel
theorem dX5_move_123 : decode cX5_move 123 = .ok (.iadd, 1) := by decide +kernel
theorem dX5_move_124 : decode cX5_move 124 = .ok (.sipush 20000, 3) := by decide +kernel
theorem dX5_move_127 : decode cX5_move 127 = .ok (.invokestatic 127, 3) := by decide +kernel
theorem dX5_move_130 : decode cX5_move 130 = .ok (.iastore, 1) := by decide +kernel
theorem dX5_move_131 : decode cX5_move 131 = .ok (.iinc 1 1, 3) := by decide +kernel
theorem dX5_move_134 : decode cX5_move 134 = .ok (.goto (-132), 3) := by decide +kernel
theorem dX5_move_137 : decode cX5_move 137 = .ok (.iconst 0, 1) := by decide +kernel
theorem dX5_move_138 : decode cX5_move 138 = .ok (.istore_n 1, 1) := by decide +kernel
theorem dX5_move_139 : decode cX5_move 139 = .ok (.iload_n 1, 1) := by decide +kernel
theorem dX5_move_140 : decode cX5_move 140 = .ok (.bipush 6, 2) := by decide +kernel
theorem dX5_move_142 : decode cX5_move 142 = .ok (.if_icmp .ge 49, 3) := by decide +kernel
theorem dX5_move_145 : decode cX5_move 145 = .ok (.iload_n 1, 1) := by decide +kernel
theorem dX5_move_146 : decode cX5_move 146 = .ok (.iconst 1, 1) := by decide +kernel
theorem dX5_move_147 : decode cX5_move 147 = .ok (.iadd, 1) := by decide +kernel
theorem dX5_move_148 : decode cX5_move 148 = .ok (.istore_n 2, 1) := by decide +kernel
theorem dX5_move_149 : decode cX5_move 149 = .ok (.iload_n 2, 1) := by decide +kernel
theorem dX5_move_150 : decode cX5_move 150 = .ok (.bipush 6, 2) := by decide +kernel
theorem dX5_move_152 : decode cX5_move 152 = .ok (.if_icmp .ge 33, 3) := by decide +kernel
theorem dX5_move_155 : decode cX5_move 155 = .ok (.aload_n 0, 1) := by decide +kernel
theorem dX5_move_156 : decode cX5_move 156 = .ok (.getfield 13, 3) := by decide +kernel
theorem dX5_move_159 : decode cX5_move 159 = .ok (.iload_n 1, 1) := by decide +kernel
theorem dX5_move_160 : decode cX5_move 160 = .ok (.baload, 1) := by decide +kernel
theorem dX5_move_161 : decode cX5_move 161 = .ok (.ifCond .eq 18, 3) := by decide +kernel
theorem dX5_move_164 : decode cX5_move 164 = .ok (.aload_n 0, 1) := by decide +kernel
theorem dX5_move_165 : decode cX5_move 165 = .ok (.getfield 13, 3) := by decide +kernel
theorem dX5_move_168 : decode cX5_move 168 = .ok (.iload_n 2, 1) := by decide +kernel
theorem dX5_move_169 : decode cX5_move 169 = .ok (.baload, 1) := by decide +kernel
theorem dX5_move_170 : decode cX5_move 170 = .ok (.ifCond .eq 9, 3) := by decide +kernel
theorem dX5_move_173 : decode cX5_move 173 = .ok (.aload_n 0, 1) := by decide +kernel
theorem dX5_move_174 : decode cX5_move 174 = .ok (.iload_n 1, 1) := by decide +kernel
theorem dX5_move_175 : decode cX5_move 175 = .ok (.iload_n 2, 1) := by decide +kernel
theorem dX5_move_176 : decode cX5_move 176 = .ok (.invokevirtual 69, 3) := by decide +kernel
theorem dX5_move_179 : decode cX5_move 179 = .ok (.iinc 2 1, 3) := by decide +kernel
theorem dX5_move_182 : decode cX5_move 182 = .ok (.goto (-33), 3) := by decide +kernel
theorem dX5_move_185 : decode cX5_move 185 = .ok (.iinc 1 1, 3) := by decide +kernel
theorem dX5_move_188 : decode cX5_move 188 = .ok (.goto (-49), 3) := by decide +kernel
theorem dX5_move_191 : decode cX5_move 191 = .ok (.return_, 1) := by decide +kernel
theorem dX5_obey_0 : decode cX5_obey 0 = .ok (.iconst 0, 1) := by decide +kernel
theorem dX5_obey_1 : decode cX5_obey 1 = .ok (.istore_n 2, 1) := by decide +kernel
theorem dX5_obey_2 : decode cX5_obey 2 = .ok (.iconst 0, 1) := by decide +kernel
theorem dX5_obey_3 : decode cX5_obey 3 = .ok (.istore_n 3, 1) := by decide +kernel
theorem dX5_obey_4 : decode cX5_obey 4 = .ok (.iconst 0, 1) := by decide +kernel
theorem dX5_obey_5 : decode cX5_obey 5 = .ok (.istore 4, 2) := by decide +kernel
theorem dX5_obey_7 : decode cX5_obey 7 = .ok (.iload 4, 2) := by decide +kernel
theorem dX5_obey_9 : decode cX5_obey 9 = .ok (.bipush 6, 2) := by decide +kernel
theorem dX5_obey_11 : decode cX5_obey 11 = .ok (.if_icmp .ge 152, 3) := by decide +kernel
theorem dX5_obey_14 : decode cX5_obey 14 = .ok (.iload 4, 2) := by decide +kernel
theorem dX5_obey_16 : decode cX5_obey 16 = .ok (.iload_n 1, 1) := by decide +kernel
theorem dX5_obey_17 : decode cX5_obey 17 = .ok (.if_icmp .ne 7, 3) := by decide +kernel
theorem dX5_obey_20 : decode cX5_obey 20 = .ok (.iconst 0, 1) := by decide +kernel
theorem dX5_obey_21 : decode cX5_obey 21 = .ok (.goto 9, 3) := by decide +kernel
theorem dX5_obey_24 : decode cX5_obey 24 = .ok (.iload_n 1, 1) := by decide +kernel
theorem dX5_obey_25 : decode cX5_obey 25 = .ok (.iload 4, 2) := by decide +kernel
theorem dX5_obey_27 : decode cX5_obey 27 = .ok (.invokestatic 53, 3) := by decide +kernel
theorem dX5_obey_30 : decode cX5_obey 30 = .ok (.istore 5, 2) := by decide +kernel
theorem dX5_obey_32 : decode cX5_obey 32 = .ok (.iload 4, 2) := by decide +kernel
theorem dX5_obey_34 : decode cX5_obey 34 = .ok (.iload_n 1, 1) := by decide +kernel
theorem dX5_obey_35 : decode cX5_obey 35 = .ok (.if_icmp .eq 122, 3) := by decide +kernel
theorem dX5_obey_38 : decode cX5_obey 38 = .ok (.aload_n 0, 1) := by decide +kernel
theorem dX5_obey_39 : decode cX5_obey 39 = .ok (.getfield 23, 3) := by decide +kernel
theorem dX5_obey_42 : decode cX5_obey 42 = .ok (.iload 5, 2) := by decide +kernel
theorem dX5_obey_44 : decode cX5_obey 44 = .ok (.iaload, 1) := by decide +kernel
theorem dX5_obey_45 : decode cX5_obey 45 = .ok (.ifCond .le 112, 3) := by decide +kernel
theorem dX5_obey_48 : decode cX5_obey 48 = .ok (.aload_n 0, 1) := by decide +kernel
theorem dX5_obey_49 : decode cX5_obey 49 = .ok (.getfield 29, 3) := by decide +kernel
theorem dX5_obey_52 : decode cX5_obey 52 = .ok (.iload 5, 2) := by decide +kernel
theorem dX5_obey_54 : decode cX5_obey 54 = .ok (.iaload, 1) := by decide +kernel
theorem dX5_obey_55 : decode cX5_obey 55 = .ok (.aload_n 0, 1) := by decide +kernel
theorem dX5_obey_56 : decode cX5_obey 56 = .ok (.getfield 7, 3) := by decide +kernel
theorem dX5_obey_59 : decode cX5_obey 59 = .ok (.iconst 5, 1) := by decide +kernel
theorem dX5_obey_60 : decode cX5_obey 60 = .ok (.iaload, 1) := by decide +kernel
theorem dX5_obey_61 : decode cX5_obey 61 = .ok (.if_icmp .lt 96, 3) := by decide +kernel
theorem dX5_obey_64 : decode cX5_obey 64 = .ok (.iload_n 1, 1) := by decide +kernel
theorem dX5_obey_65 : decode cX5_obey 65 = .ok (.iload 4, 2) := by decide +kernel
theorem dX5_obey_67 : decode cX5_obey 67 = .ok (.if_icmp .ge 7, 3) := by decide +kernel
theorem dX5_obey_70 : decode cX5_obey 70 = .ok (.iconst 1, 1) := by decide +kernel
theorem dX5_obey_71 : decode cX5_obey 71 = .ok (.goto 4, 3) := by decide +kernel
theorem dX5_obey_74 : decode cX5_obey 74 = .ok (.iconst 0, 1) := by decide +kernel
theorem dX5_obey_75 : decode cX5_obey 75 = .ok (.aload_n 0, 1) := by decide +kernel
theorem dX5_obey_76 : decode cX5_obey 76 = .ok (.getfield 23, 3) := by decide +kernel
theorem dX5_obey_79 : decode cX5_obey 79 = .ok (.iload 5, 2) := by decide +kernel
theorem dX5_obey_81 : decode cX5_obey 81 = .ok (.iaload, 1) := by decide +kernel
theorem dX5_obey_82 : decode cX5_obey 82 = .ok (.iconst 1, 1) := by decide +kernel
theorem dX5_obey_83 : decode cX5_obey 83 = .ok (.if_icmp .ne 7, 3) := by decide +kernel
theorem dX5_obey_86 : decode cX5_obey 86 = .ok (.iconst 1, 1) := by decide +kernel
theorem dX5_obey_87 : decode cX5_obey 87 = .ok (.goto 4, 3) := by decide +kernel
theorem dX5_obey_90 : decode cX5_obey 90 = .ok (.iconst 0, 1) := by decide +kernel
theorem dX5_obey_91 : decode cX5_obey 91 = .ok (.if_icmp .ne 7, 3) := by decide +kernel
theorem dX5_obey_94 : decode cX5_obey 94 = .ok (.iconst 1, 1) := by decide +kernel
theorem dX5_obey_95 : decode cX5_obey 95 = .ok (.goto 4, 3) := by decide +kernel
theorem dX5_obey_98 : decode cX5_obey 98 = .ok (.iconst 0, 1) := by decide +kernel
theorem dX5_obey_99 : decode cX5_obey 99 = .ok (.istore 6, 2) := by decide +kernel
theorem dX5_obey_101 : decode cX5_obey 101 = .ok (.iload 6, 2) := by decide +kernel
theorem dX5_obey_103 : decode cX5_obey 103 = .ok (.ifCond .eq 24, 3) := by decide +kernel
theorem dX5_obey_106 : decode cX5_obey 106 = .ok (.aload_n 0, 1) := by decide +kernel
theorem dX5_obey_107 : decode cX5_obey 107 = .ok (.getfield 26, 3) := by decide +kernel
theorem dX5_obey_110 : decode cX5_obey 110 = .ok (.iload 5, 2) := by decide +kernel
theorem dX5_obey_112 : decode cX5_obey 112 = .ok (.iaload, 1) := by decide +kernel
theorem dX5_obey_113 : decode cX5_obey 113 = .ok (.iload_n 2, 1) := by decide +kernel
theorem dX5_obey_114 : decode cX5_obey 114 = .ok (.if_icmp .le 13, 3) := by decide +kernel
theorem dX5_obey_117 : decode cX5_obey 117 = .ok (.aload_n 0, 1) := by decide +kernel
theorem dX5_obey_118 : decode cX5_obey 118 = .ok (.getfield 26, 3) := by decide +kernel
theorem dX5_obey_121 : decode cX5_obey 121 = .ok (.iload 5, 2) := by decide +kernel
theorem dX5_obey_123 : decode cX5_obey 123 = .ok (.iaload, 1) := by decide +kernel
theorem dX5_obey_124 : decode cX5_obey 124 = .ok (.goto 4, 3) := by decide +kernel
theorem dX5_obey_127 : decode cX5_obey 127 = .ok (.iload_n 2, 1) := by decide +kernel
theorem dX5_obey_128 : decode cX5_obey 128 = .ok (.istore_n 2, 1) := by decide +kernel
theorem dX5_obey_129 : decode cX5_obey 129 = .ok (.iload 6, 2) := by decide +kernel
theorem dX5_obey_131 : decode cX5_obey 131 = .ok (.ifCond .ne 24, 3) := by decide +kernel
theorem dX5_obey_134 : decode cX5_obey 134 = .ok (.aload_n 0, 1) := by decide +kernel
theorem dX5_obey_135 : decode cX5_obey 135 = .ok (.getfield 26, 3) := by decide +kernel
theorem dX5_obey_138 : decode cX5_obey 138 = .ok (.iload 5, 2) := by decide +kernel
theorem dX5_obey_140 : decode cX5_obey 140 = .ok (.iaload, 1) := by decide +kernel
theorem dX5_obey_141 : decode cX5_obey 141 = .ok (.iload_n 3, 1) := by decide +kernel
theorem dX5_obey_142 : decode cX5_obey 142 = .ok (.if_icmp .le 13, 3) := by decide +kernel
theorem dX5_obey_145 : decode cX5_obey 145 = .ok (.aload_n 0, 1) := by decide +kernel
theorem dX5_obey_146 : decode cX5_obey 146 = .ok (.getfield 26, 3) := by decide +kernel
theorem dX5_obey_149 : decode cX5_obey 149 = .ok (.iload 5, 2) := by decide +kernel
theorem dX5_obey_151 : decode cX5_obey 151 = .ok (.iaload, 1) := by decide +kernel
theorem dX5_obey_152 : decode cX5_obey 152 = .ok (.goto 4, 3) := by decide +kernel
theorem dX5_obey_155 : decode cX5_obey 155 = .ok (.iload_n 3, 1) := by decide +kernel
theorem dX5_obey_156 : decode cX5_obey 156 = .ok (.istore_n 3, 1) := by decide +kernel
theorem dX5_obey_157 : decode cX5_obey 157 = .ok (.iinc 4 1, 3) := by decide +kernel
theorem dX5_obey_160 : decode cX5_obey 160 = .ok (.goto (-153), 3) := by decide +kernel
theorem dX5_obey_163 : decode cX5_obey 163 = .ok (.aload_n 0, 1) := by decide +kernel
theorem dX5_obey_164 : decode cX5_obey 164 = .ok (.getfield 20, 3) := by decide +kernel
theorem dX5_obey_167 : decode cX5_obey 167 = .ok (.bipush 6, 2) := by decide +kernel
theorem dX5_obey_169 : decode cX5_obey 169 = .ok (.iload_n 1, 1) := by decide +kernel
theorem dX5_obey_170 : decode cX5_obey 170 = .ok (.imul, 1) := by decide +kernel
theorem dX5_obey_171 : decode cX5_obey 171 = .ok (.iconst 5, 1) := by decide +kernel
theorem dX5_obey_172 : decode cX5_obey 172 = .ok (.iadd, 1) := by decide +kernel
theorem dX5_obey_173 : decode cX5_obey 173 = .ok (.iaload, 1) := by decide +kernel
theorem dX5_obey_174 : decode cX5_obey 174 = .ok (.istore 4, 2) := by decide +kernel
theorem dX5_obey_176 : decode cX5_obey 176 = .ok (.aload_n 0, 1) := by decide +kernel
theorem dX5_obey_177 : decode cX5_obey 177 = .ok (.getfield 7, 3) := by decide +kernel
theorem dX5_obey_180 : decode cX5_obey 180 = .ok (.bipush 6, 2) := by decide +kernel
theorem dX5_obey_182 : decode cX5_obey 182 = .ok (.iaload, 1) := by decide +kernel
theorem dX5_obey_183 : decode cX5_obey 183 = .ok (.istore 5, 2) := by decide +kernel
theorem dX5_obey_185 : decode cX5_obey 185 = .ok (.iload_n 2, 1) := by decide +kernel
theorem dX5_obey_186 : decode cX5_obey 186 = .ok (.ifCond .le 53, 3) := by decide +kernel
theorem dX5_obey_189 : decode cX5_obey 189 = .ok (.iload_n 3, 1) := by decide +kernel
theorem dX5_obey_190 : decode cX5_obey 190 = .ok (.ifCond .le 49, 3) := by decide +kernel
theorem dX5_obey_193 : decode cX5_obey 193 = .ok (.iload 4, 2) := by decide +kernel
theorem dX5_obey_195 : decode cX5_obey 195 = .ok (.ifCond .le 22, 3) := by decide +kernel
theorem dX5_obey_198 : decode cX5_obey 198 = .ok (.iload 4, 2) := by decide +kernel
theorem dX5_obey_200 : decode cX5_obey 200 = .ok (.iload 5, 2) := by decide +kernel
theorem dX5_obey_202 : decode cX5_obey 202 = .ok (.if_icmp .le 11, 3) := by decide +kernel
theorem dX5_obey_205 : decode cX5_obey 205 = .ok (.iload 4, 2) := by decide +kernel
theorem dX5_obey_207 : decode cX5_obey 207 = .ok (.iload 5, 2) := by decide +kernel
theorem dX5_obey_209 : decode cX5_obey 209 = .ok (.isub, 1) := by decide +kernel
theorem dX5_obey_210 : decode cX5_obey 210 = .ok (.goto 24, 3) := by decide +kernel
theorem dX5_obey_213 : decode cX5_obey 213 = .ok (.iconst 0, 1) := by decide +kernel
theorem dX5_obey_214 : decode cX5_obey 214 = .ok (.goto 20, 3) := by decide +kernel
theorem dX5_obey_217 : decode cX5_obey 217 = .ok (.iload 4, 2) := by decide +kernel
theorem dX5_obey_219 : decode cX5_obey 219 = .ok (.iload 5, 2) := by decide +kernel
theorem dX5_obey_221 : decode cX5_obey 221 = .ok (.ineg, 1) := by decide +kernel
theorem dX5_obey_222 : decode cX5_obey 222 = .ok (.if_icmp .ge 11, 3) := by decide +kernel
theorem dX5_obey_225 : decode cX5_obey 225 = .ok (.iload 4, 2) := by decide +kernel
theorem dX5_obey_227 : decode cX5_obey 227 = .ok (.iload 5, 2) := by decide +kernel
theorem dX5_obey_229 : decode cX5_obey 229 = .ok (.iadd, 1) := by decide +kernel
theorem dX5_obey_230 : decode cX5_obey 230 = .ok (.goto 4, 3) := by decide +kernel
theorem dX5_obey_233 : decode cX5_obey 233 = .ok (.iconst 0, 1) := by decide +kernel
theorem dX5_obey_234 : decode cX5_obey 234 = .ok (.istore 4, 2) := by decide +kernel
theorem dX5_obey_236 : decode cX5_obey 236 = .ok (.goto 84, 3) := by decide +kernel
theorem dX5_obey_239 : decode cX5_obey 239 = .ok (.iload_n 2, 1) := by decide +kernel
theorem dX5_obey_240 : decode cX5_obey 240 = .ok (.ifCond .le 41, 3) := by decide +kernel
theorem dX5_obey_243 : decode cX5_obey 243 = .ok (.iload 4, 2) := by decide +kernel
theorem dX5_obey_245 : decode cX5_obey 245 = .ok (.bipush 12, 2) := by decide +kernel
theorem dX5_obey_247 : decode cX5_obey 247 = .ok (.iload_n 2, 1) := by decide +kernel
theorem dX5_obey_248 : decode cX5_obey 248 = .ok (.imul, 1) := by decide +kernel
theorem dX5_obey_249 : decode cX5_obey 249 = .ok (.if_icmp .ge 32, 3) := by decide +kernel
theorem dX5_obey_252 : decode cX5_obey 252 = .ok (.iload 4, 2) := by decide +kernel
theorem dX5_obey_254 : decode cX5_obey 254 = .ok (.iload 5, 2) := by decide +kernel
theorem dX5_obey_256 : decode cX5_obey 256 = .ok (.iadd, 1) := by decide +kernel
theorem dX5_obey_257 : decode cX5_obey 257 = .ok (.bipush 12, 2) := by decide +kernel
theorem dX5_obey_259 : decode cX5_obey 259 = .ok (.iload_n 2, 1) := by decide +kernel
theorem dX5_obey_260 : decode cX5_obey 260 = .ok (.imul, 1) := by decide +kernel
theorem dX5_obey_261 : decode cX5_obey 261 = .ok (.if_icmp .ge 11, 3) := by decide +kernel
theorem dX5_obey_264 : decode cX5_obey 264 = .ok (.iload 4, 2) := by decide +kernel
theorem dX5_obey_266 : decode cX5_obey 266 = .ok (.iload 5, 2) := by decide +kernel
theorem dX5_obey_268 : decode cX5_obey 268 = .ok (.iadd, 1) := by decide +kernel
theorem dX5_obey_269 : decode cX5_obey 269 = .ok (.goto 7, 3) := by decide +kernel
theorem dX5_obey_272 : decode cX5_obey 272 = .ok (.bipush 12, 2) := by decide +kernel
theorem dX5_obey_274 : decode cX5_obey 274 = .ok (.iload_n 2, 1) := by decide +kernel
theorem dX5_obey_275 : decode cX5_obey 275 = .ok (.imul, 1) := by decide +kernel
theorem dX5_obey_276 : decode cX5_obey 276 = .ok (.istore 4, 2) := by decide +kernel
theorem dX5_obey_278 : decode cX5_obey 278 = .ok (.goto 42, 3) := by decide +kernel
theorem dX5_obey_281 : decode cX5_obey 281 = .ok (.iload_n 3, 1) := by decide +kernel
theorem dX5_obey_282 : decode cX5_obey 282 = .ok (.ifCond .le 38, 3) := by decide +kernel
theorem dX5_obey_285 : decode cX5_obey 285 = .ok (.iload 4, 2) := by decide +kernel
theorem dX5_obey_287 : decode cX5_obey 287 = .ok (.bipush (-12), 2) := by decide +kernel
theorem dX5_obey_289 : decode cX5_obey 289 = .ok (.iload_n 3, 1) := by decide +kernel
theorem dX5_obey_290 : decode cX5_obey 290 = .ok (.imul, 1) := by decide +kernel
theorem dX5_obey_291 : decode cX5_obey 291 = .ok (.if_icmp .le 29, 3) := by decide +kernel
theorem dX5_obey_294 : decode cX5_obey 294 = .ok (.iload 4, 2) := by decide +kernel
theorem dX5_obey_296 : decode cX5_obey 296 = .ok (.iload 5, 2) := by decide +kernel
theorem dX5_obey_298 : decode cX5_obey 298 = .ok (.isub, 1) := by decide +kernel
theorem dX5_obey_299 : decode cX5_obey 299 = .ok (.bipush (-12), 2) := by decide +kernel
theorem dX5_obey_301 : decode cX5_obey 301 = .ok (.iload_n 3, 1) := by decide +kernel
theorem dX5_obey_302 : decode cX5_obey 302 = .ok (.imul, 1) := by decide +kernel
theorem dX5_obey_303 : decode cX5_obey 303 = .ok (.if_icmp .le 11, 3) := by decide +kernel
theorem dX5_obey_306 : decode cX5_obey 306 = .ok (.iload 4, 2) := by decide +kernel
theorem dX5_obey_308 : decode cX5_obey 308 = .ok (.iload 5, 2) := by decide +kernel
theorem dX5_obey_310 : decode cX5_obey 310 = .ok (.isub, 1) := by decide +kernel
theorem dX5_obey_311 : decode cX5_obey 311 = .ok (.goto 7, 3) := by decide +kernel
theorem dX5_obey_314 : decode cX5_obey 314 = .ok (.bipush (-12), 2) := by decide +kernel
theorem dX5_obey_316 : decode cX5_obey 316 = .ok (.iload_n 3, 1) := by decide +kernel
theorem dX5_obey_317 : decode cX5_obey 317 = .ok (.imul, 1) := by decide +kernel
theorem dX5_obey_318 : decode cX5_obey 318 = .ok (.istore 4, 2) := by decide +kernel
theorem dX5_obey_320 : decode cX5_obey 320 = .ok (.aload_n 0, 1) := by decide +kernel
theorem dX5_obey_321 : decode cX5_obey 321 = .ok (.getfield 20, 3) := by decide +kernel
theorem dX5_obey_324 : decode cX5_obey 324 = .ok (.bipush 6, 2) := by decide +kernel
theorem dX5_obey_326 : decode cX5_obey 326 = .ok (.iload_n 1, 1) := by decide +kernel
theorem dX5_obey_327 : decode cX5_obey 327 = .ok (.imul, 1) := by decide +kernel
theorem dX5_obey_328 : decode cX5_obey 328 = .ok (.iconst 5, 1) := by decide +kernel
theorem dX5_obey_329 : decode cX5_obey 329 = .ok (.iadd, 1) := by decide +kernel
theorem dX5_obey_330 : decode cX5_obey 330 = .ok (.iload 4, 2) := by decide +kernel
theorem dX5_obey_332 : decode cX5_obey 332 = .ok (.iastore, 1) := by decide +kernel
theorem dX5_obey_333 : decode cX5_obey 333 = .ok (.return_, 1) := by decide +kernel
theorem dX5_begin_0 : decode cX5_begin 0 = .ok (.aload_n 0, 1) := by decide +kernel
theorem dX5_begin_1 : decode cX5_begin 1 = .ok (.getfield 23, 3) := by decide +kernel
theorem dX5_begin_4 : decode cX5_begin 4 = .ok (.iload_n 1, 1) := by decide +kernel
theorem dX5_begin_5 : decode cX5_begin 5 = .ok (.iload_n 2, 1) := by decide +kernel
theorem dX5_begin_6 : decode cX5_begin 6 = .ok (.iastore, 1) := by decide +kernel
theorem dX5_begin_7 : decode cX5_begin 7 = .ok (.aload_n 0, 1) := by decide +kernel
theorem dX5_begin_8 : decode cX5_begin 8 = .ok (.getfield 26, 3) := by decide +kernel
theorem dX5_begin_11 : decode cX5_begin 11 = .ok (.iload_n 1, 1) := by decide +kernel
theorem dX5_begin_12 : decode cX5_begin 12 = .ok (.aload_n 0, 1) := by decide +kernel
theorem dX5_begin_13 : decode cX5_begin 13 = .ok (.iload_n 2, 1) := by decide +kernel
theorem dX5_begin_14 : decode cX5_begin 14 = .ok (.iconst 1, 1) := by decide +kernel
theorem dX5_begin_15 : decode cX5_begin 15 = .ok (.iconst 0, 1) := by decide +kernel
theorem dX5_begin_16 : decode cX5_begin 16 = .ok (.invokevirtual 123, 3) := by decide +kernel
theorem dX5_begin_19 : decode cX5_begin 19 = .ok (.iastore, 1) := by decide +kernel
theorem dX5_begin_20 : decode cX5_begin 20 = .ok (.aload_n 0, 1) := by decide +kernel
theorem dX5_begin_21 : decode cX5_begin 21 = .ok (.getfield 29, 3) := by decide +kernel
theorem dX5_begin_24 : decode cX5_begin 24 = .ok (.iload_n 1, 1) := by decide +kernel
theorem dX5_begin_25 : decode cX5_begin 25 = .ok (.iconst 0, 1) := by decide +kernel
theorem dX5_begin_26 : decode cX5_begin 26 = .ok (.iastore, 1) := by decide +kernel
theorem dX5_begin_27 : decode cX5_begin 27 = .ok (.return_, 1) := by decide +kernel
theorem dX5_advise_0 : decode cX5_advise 0 = .ok (.aload_n 0, 1) := by decide +kernel
theorem dX5_advise_1 : decode cX5_advise 1 = .ok (.getfield 23, 3) := by decide +kernel
theorem dX5_advise_4 : decode cX5_advise 4 = .ok (.iload_n 1, 1) := by decide +kernel
theorem dX5_advise_5 : decode cX5_advise 5 = .ok (.iaload, 1) := by decide +kernel
theorem dX5_advise_6 : decode cX5_advise 6 = .ok (.ifCond .ne 37, 3) := by decide +kernel
theorem dX5_advise_9 : decode cX5_advise 9 = .ok (.aload_n 0, 1) := by decide +kernel
theorem dX5_advise_10 : decode cX5_advise 10 = .ok (.invokevirtual 130, 3) := by decide +kernel
theorem dX5_advise_13 : decode cX5_advise 13 = .ok (.ifCond .eq 29, 3) := by decide +kernel
theorem dX5_advise_16 : decode cX5_advise 16 = .ok (.aload_n 0, 1) := by decide +kernel
theorem dX5_advise_17 : decode cX5_advise 17 = .ok (.iload_n 1, 1) := by decide +kernel
theorem dX5_advise_18 : decode cX5_advise 18 = .ok (.aload_n 0, 1) := by decide +kernel
theorem dX5_advise_19 : decode cX5_advise 19 = .ok (.invokevirtual 134, 3) := by decide +kernel
theorem dX5_advise_22 : decode cX5_advise 22 = .ok (.invokevirtual 138, 3) := by decide +kernel
theorem dX5_advise_25 : decode cX5_advise 25 = .ok (.aload_n 0, 1) := by decide +kernel
theorem dX5_advise_26 : decode cX5_advise 26 = .ok (.getfield 32, 3) := by decide +kernel
theorem dX5_advise_29 : decode cX5_advise 29 = .ok (.iload_n 1, 1) := by decide +kernel
theorem dX5_advise_30 : decode cX5_advise 30 = .ok (.iconst 0, 1) := by decide +kernel
theorem dX5_advise_31 : decode cX5_advise 31 = .ok (.bastore, 1) := by decide +kernel
theorem dX5_advise_32 : decode cX5_advise 32 = .ok (.aload_n 0, 1) := by decide +kernel
theorem dX5_advise_33 : decode cX5_advise 33 = .ok (.getfield 42, 3) := by decide +kernel
theorem dX5_advise_36 : decode cX5_advise 36 = .ok (.iconst 0, 1) := by decide +kernel
theorem dX5_advise_37 : decode cX5_advise 37 = .ok (.dup2, 1) := by decide +kernel
theorem dX5_advise_38 : decode cX5_advise 38 = .ok (.iaload, 1) := by decide +kernel
theorem dX5_advise_39 : decode cX5_advise 39 = .ok (.iconst 1, 1) := by decide +kernel
theorem dX5_advise_40 : decode cX5_advise 40 = .ok (.iadd, 1) := by decide +kernel
theorem dX5_advise_41 : decode cX5_advise 41 = .ok (.iastore, 1) := by decide +kernel
theorem dX5_advise_42 : decode cX5_advise 42 = .ok (.return_, 1) := by decide +kernel
theorem dX5_advise_43 : decode cX5_advise 43 = .ok (.aload_n 0, 1) := by decide +kernel
theorem dX5_advise_44 : decode cX5_advise 44 = .ok (.invokevirtual 130, 3) := by decide +kernel
theorem dX5_advise_47 : decode cX5_advise 47 = .ok (.ifCond .ne 51, 3) := by decide +kernel
theorem dX5_advise_50 : decode cX5_advise 50 = .ok (.aload_n 0, 1) := by decide +kernel
theorem dX5_advise_51 : decode cX5_advise 51 = .ok (.getfield 101, 3) := by decide +kernel
theorem dX5_advise_54 : decode cX5_advise 54 = .ok (.lconst 0, 1) := by decide +kernel
theorem dX5_advise_55 : decode cX5_advise 55 = .ok (.lcmp, 1) := by decide +kernel
theorem dX5_advise_56 : decode cX5_advise 56 = .ok (.ifCond .lt 42, 3) := by decide +kernel
theorem dX5_advise_59 : decode cX5_advise 59 = .ok (.aload_n 0, 1) := by decide +kernel
theorem dX5_advise_60 : decode cX5_advise 60 = .ok (.getfield 23, 3) := by decide +kernel
theorem dX5_advise_63 : decode cX5_advise 63 = .ok (.iload_n 1, 1) := by decide +kernel
theorem dX5_advise_64 : decode cX5_advise 64 = .ok (.iconst 0, 1) := by decide +kernel
theorem dX5_advise_65 : decode cX5_advise 65 = .ok (.iastore, 1) := by decide +kernel
theorem dX5_advise_66 : decode cX5_advise 66 = .ok (.aload_n 0, 1) := by decide +kernel
theorem dX5_advise_67 : decode cX5_advise 67 = .ok (.getfield 26, 3) := by decide +kernel
theorem dX5_advise_70 : decode cX5_advise 70 = .ok (.iload_n 1, 1) := by decide +kernel
theorem dX5_advise_71 : decode cX5_advise 71 = .ok (.iconst 0, 1) := by decide +kernel
theorem dX5_advise_72 : decode cX5_advise 72 = .ok (.iastore, 1) := by decide +kernel
theorem dX5_advise_73 : decode cX5_advise 73 = .ok (.aload_n 0, 1) := by decide +kernel
theorem dX5_advise_74 : decode cX5_advise 74 = .ok (.getfield 29, 3) := by decide +kernel
theorem dX5_advise_77 : decode cX5_advise 77 = .ok (.iload_n 1, 1) := by decide +kernel
theorem dX5_advise_78 : decode cX5_advise 78 = .ok (.iconst 0, 1) := by decide +kernel
theorem dX5_advise_79 : decode cX5_advise 79 = .ok (.iastore, 1) := by decide +kernel
theorem dX5_advise_80 : decode cX5_advise 80 = .ok (.aload_n 0, 1) := by decide +kernel
theorem dX5_advise_81 : decode cX5_advise 81 = .ok (.getfield 32, 3) := by decide +kernel
theorem dX5_advise_84 : decode cX5_advise 84 = .ok (.iload_n 1, 1) := by decide +kernel
theorem dX5_advise_85 : decode cX5_advise 85 = .ok (.iconst 0, 1) := by decide +kernel
theorem dX5_advise_86 : decode cX5_advise 86 = .ok (.bastore, 1) := by decide +kernel
theorem dX5_advise_87 : decode cX5_advise 87 = .ok (.aload_n 0, 1) := by decide +kernel
theorem dX5_advise_88 : decode cX5_advise 88 = .ok (.getfield 42, 3) := by decide +kernel
theorem dX5_advise_91 : decode cX5_advise 91 = .ok (.iconst 3, 1) := by decide +kernel
theorem dX5_advise_92 : decode cX5_advise 92 = .ok (.dup2, 1) := by decide +kernel
theorem dX5_advise_93 : decode cX5_advise 93 = .ok (.iaload, 1) := by decide +kernel
theorem dX5_advise_94 : decode cX5_advise 94 = .ok (.iconst 1, 1) := by decide +kernel
theorem dX5_advise_95 : decode cX5_advise 95 = .ok (.iadd, 1) := by decide +kernel
theorem dX5_advise_96 : decode cX5_advise 96 = .ok (.iastore, 1) := by decide +kernel
theorem dX5_advise_97 : decode cX5_advise 97 = .ok (.return_, 1) := by decide +kernel
theorem dX5_advise_98 : decode cX5_advise 98 = .ok (.aload_n 0, 1) := by decide +kernel
theorem dX5_advise_99 : decode cX5_advise 99 = .ok (.getfield 29, 3) := by decide +kernel
theorem dX5_advise_102 : decode cX5_advise 102 = .ok (.iload_n 1, 1) := by decide +kernel
theorem dX5_advise_103 : decode cX5_advise 103 = .ok (.dup2, 1) := by decide +kernel
theorem dX5_advise_104 : decode cX5_advise 104 = .ok (.iaload, 1) := by decide +kernel
theorem dX5_advise_105 : decode cX5_advise 105 = .ok (.iconst 1, 1) := by decide +kernel
theorem dX5_advise_106 : decode cX5_advise 106 = .ok (.iadd, 1) := by decide +kernel
theorem dX5_advise_107 : decode cX5_advise 107 = .ok (.iastore, 1) := by decide +kernel
theorem dX5_advise_108 : decode cX5_advise 108 = .ok (.aload_n 0, 1) := by decide +kernel
theorem dX5_advise_109 : decode cX5_advise 109 = .ok (.getfield 23, 3) := by decide +kernel
theorem dX5_advise_112 : decode cX5_advise 112 = .ok (.iload_n 1, 1) := by decide +kernel
theorem dX5_advise_113 : decode cX5_advise 113 = .ok (.iaload, 1) := by decide +kernel
theorem dX5_advise_114 : decode cX5_advise 114 = .ok (.iconst 1, 1) := by decide +kernel
theorem dX5_advise_115 : decode cX5_advise 115 = .ok (.if_icmp .ne 7, 3) := by decide +kernel
theorem dX5_advise_118 : decode cX5_advise 118 = .ok (.iconst 2, 1) := by decide +kernel
