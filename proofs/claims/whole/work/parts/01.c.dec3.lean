theorem dX5_advise_119 : decode cX5_advise 119 = .ok (.goto 4, 3) := by decide +kernel
theorem dX5_advise_122 : decode cX5_advise 122 = .ok (.iconst 1, 1) := by decide +kernel
theorem dX5_advise_123 : decode cX5_advise 123 = .ok (.istore_n 2, 1) := by decide +kernel
theorem dX5_advise_124 : decode cX5_advise 124 = .ok (.aload_n 0, 1) := by decide +kernel
theorem dX5_advise_125 : decode cX5_advise 125 = .ok (.aload_n 0, 1) := by decide +kernel
theorem dX5_advise_126 : decode cX5_advise 126 = .ok (.getfield 23, 3) := by decide +kernel
theorem dX5_advise_129 : decode cX5_advise 129 = .ok (.iload_n 1, 1) := by decide +kernel
theorem dX5_advise_130 : decode cX5_advise 130 = .ok (.iaload, 1) := by decide +kernel
theorem dX5_advise_131 : decode cX5_advise 131 = .ok (.iconst 4, 1) := by decide +kernel
theorem dX5_advise_132 : decode cX5_advise 132 = .ok (.aload_n 0, 1) := by decide +kernel
theorem dX5_advise_133 : decode cX5_advise 133 = .ok (.getfield 29, 3) := by decide +kernel
theorem dX5_advise_136 : decode cX5_advise 136 = .ok (.iload_n 1, 1) := by decide +kernel
theorem dX5_advise_137 : decode cX5_advise 137 = .ok (.iaload, 1) := by decide +kernel
theorem dX5_advise_138 : decode cX5_advise 138 = .ok (.invokevirtual 119, 3) := by decide +kernel
theorem dX5_advise_141 : decode cX5_advise 141 = .ok (.lconst 0, 1) := by decide +kernel
theorem dX5_advise_142 : decode cX5_advise 142 = .ok (.lcmp, 1) := by decide +kernel
theorem dX5_advise_143 : decode cX5_advise 143 = .ok (.ifCond .ge 69, 3) := by decide +kernel
theorem dX5_advise_146 : decode cX5_advise 146 = .ok (.aload_n 0, 1) := by decide +kernel
theorem dX5_advise_147 : decode cX5_advise 147 = .ok (.iload_n 2, 1) := by decide +kernel
theorem dX5_advise_148 : decode cX5_advise 148 = .ok (.iconst 4, 1) := by decide +kernel
theorem dX5_advise_149 : decode cX5_advise 149 = .ok (.iconst 0, 1) := by decide +kernel
theorem dX5_advise_150 : decode cX5_advise 150 = .ok (.invokevirtual 119, 3) := by decide +kernel
theorem dX5_advise_153 : decode cX5_advise 153 = .ok (.aload_n 0, 1) := by decide +kernel
theorem dX5_advise_154 : decode cX5_advise 154 = .ok (.getfield 7, 3) := by decide +kernel
theorem dX5_advise_157 : decode cX5_advise 157 = .ok (.iconst 4, 1) := by decide +kernel
theorem dX5_advise_158 : decode cX5_advise 158 = .ok (.iaload, 1) := by decide +kernel
theorem dX5_advise_159 : decode cX5_advise 159 = .ok (.i2l, 1) := by decide +kernel
theorem dX5_advise_160 : decode cX5_advise 160 = .ok (.lcmp, 1) := by decide +kernel
theorem dX5_advise_161 : decode cX5_advise 161 = .ok (.ifCond .lt 51, 3) := by decide +kernel
theorem dX5_advise_164 : decode cX5_advise 164 = .ok (.aload_n 0, 1) := by decide +kernel
theorem dX5_advise_165 : decode cX5_advise 165 = .ok (.getfield 32, 3) := by decide +kernel
theorem dX5_advise_168 : decode cX5_advise 168 = .ok (.iload_n 1, 1) := by decide +kernel
theorem dX5_advise_169 : decode cX5_advise 169 = .ok (.baload, 1) := by decide +kernel
theorem dX5_advise_170 : decode cX5_advise 170 = .ok (.ifCond .ne 42, 3) := by decide +kernel
theorem dX5_advise_173 : decode cX5_advise 173 = .ok (.aload_n 0, 1) := by decide +kernel
theorem dX5_advise_174 : decode cX5_advise 174 = .ok (.getfield 104, 3) := by decide +kernel
theorem dX5_advise_177 : decode cX5_advise 177 = .ok (.aload_n 0, 1) := by decide +kernel
theorem dX5_advise_178 : decode cX5_advise 178 = .ok (.getfield 7, 3) := by decide +kernel
theorem dX5_advise_181 : decode cX5_advise 181 = .ok (.iconst 5, 1) := by decide +kernel
theorem dX5_advise_182 : decode cX5_advise 182 = .ok (.iaload, 1) := by decide +kernel
theorem dX5_advise_183 : decode cX5_advise 183 = .ok (.i2l, 1) := by decide +kernel
theorem dX5_advise_184 : decode cX5_advise 184 = .ok (.lcmp, 1) := by decide +kernel
theorem dX5_advise_185 : decode cX5_advise 185 = .ok (.ifCond .le 27, 3) := by decide +kernel
theorem dX5_advise_188 : decode cX5_advise 188 = .ok (.aload_n 0, 1) := by decide +kernel
theorem dX5_advise_189 : decode cX5_advise 189 = .ok (.iload_n 1, 1) := by decide +kernel
theorem dX5_advise_190 : decode cX5_advise 190 = .ok (.iload_n 2, 1) := by decide +kernel
theorem dX5_advise_191 : decode cX5_advise 191 = .ok (.invokevirtual 138, 3) := by decide +kernel
theorem dX5_advise_194 : decode cX5_advise 194 = .ok (.aload_n 0, 1) := by decide +kernel
theorem dX5_advise_195 : decode cX5_advise 195 = .ok (.getfield 32, 3) := by decide +kernel
theorem dX5_advise_198 : decode cX5_advise 198 = .ok (.iload_n 1, 1) := by decide +kernel
theorem dX5_advise_199 : decode cX5_advise 199 = .ok (.iconst 1, 1) := by decide +kernel
theorem dX5_advise_200 : decode cX5_advise 200 = .ok (.bastore, 1) := by decide +kernel
theorem dX5_advise_201 : decode cX5_advise 201 = .ok (.aload_n 0, 1) := by decide +kernel
theorem dX5_advise_202 : decode cX5_advise 202 = .ok (.getfield 42, 3) := by decide +kernel
theorem dX5_advise_205 : decode cX5_advise 205 = .ok (.iconst 1, 1) := by decide +kernel
theorem dX5_advise_206 : decode cX5_advise 206 = .ok (.dup2, 1) := by decide +kernel
theorem dX5_advise_207 : decode cX5_advise 207 = .ok (.iaload, 1) := by decide +kernel
theorem dX5_advise_208 : decode cX5_advise 208 = .ok (.iconst 1, 1) := by decide +kernel
theorem dX5_advise_209 : decode cX5_advise 209 = .ok (.iadd, 1) := by decide +kernel
theorem dX5_advise_210 : decode cX5_advise 210 = .ok (.iastore, 1) := by decide +kernel
theorem dX5_advise_211 : decode cX5_advise 211 = .ok (.return_, 1) := by decide +kernel
theorem dX5_advise_212 : decode cX5_advise 212 = .ok (.aload_n 0, 1) := by decide +kernel
theorem dX5_advise_213 : decode cX5_advise 213 = .ok (.aload_n 0, 1) := by decide +kernel
theorem dX5_advise_214 : decode cX5_advise 214 = .ok (.getfield 23, 3) := by decide +kernel
theorem dX5_advise_217 : decode cX5_advise 217 = .ok (.iload_n 1, 1) := by decide +kernel
theorem dX5_advise_218 : decode cX5_advise 218 = .ok (.iaload, 1) := by decide +kernel
theorem dX5_advise_219 : decode cX5_advise 219 = .ok (.aload_n 0, 1) := by decide +kernel
theorem dX5_advise_220 : decode cX5_advise 220 = .ok (.getfield 26, 3) := by decide +kernel
theorem dX5_advise_223 : decode cX5_advise 223 = .ok (.iload_n 1, 1) := by decide +kernel
theorem dX5_advise_224 : decode cX5_advise 224 = .ok (.iaload, 1) := by decide +kernel
theorem dX5_advise_225 : decode cX5_advise 225 = .ok (.aload_n 0, 1) := by decide +kernel
theorem dX5_advise_226 : decode cX5_advise 226 = .ok (.getfield 29, 3) := by decide +kernel
theorem dX5_advise_229 : decode cX5_advise 229 = .ok (.iload_n 1, 1) := by decide +kernel
theorem dX5_advise_230 : decode cX5_advise 230 = .ok (.iaload, 1) := by decide +kernel
theorem dX5_advise_231 : decode cX5_advise 231 = .ok (.invokevirtual 123, 3) := by decide +kernel
theorem dX5_advise_234 : decode cX5_advise 234 = .ok (.istore_n 3, 1) := by decide +kernel
theorem dX5_advise_235 : decode cX5_advise 235 = .ok (.aload_n 0, 1) := by decide +kernel
theorem dX5_advise_236 : decode cX5_advise 236 = .ok (.getfield 42, 3) := by decide +kernel
theorem dX5_advise_239 : decode cX5_advise 239 = .ok (.iconst 2, 1) := by decide +kernel
theorem dX5_advise_240 : decode cX5_advise 240 = .ok (.iload_n 3, 1) := by decide +kernel
theorem dX5_advise_241 : decode cX5_advise 241 = .ok (.aload_n 0, 1) := by decide +kernel
theorem dX5_advise_242 : decode cX5_advise 242 = .ok (.getfield 26, 3) := by decide +kernel
theorem dX5_advise_245 : decode cX5_advise 245 = .ok (.iload_n 1, 1) := by decide +kernel
theorem dX5_advise_246 : decode cX5_advise 246 = .ok (.iaload, 1) := by decide +kernel
theorem dX5_advise_247 : decode cX5_advise 247 = .ok (.if_icmp .le 14, 3) := by decide +kernel
theorem dX5_advise_250 : decode cX5_advise 250 = .ok (.aload_n 0, 1) := by decide +kernel
theorem dX5_advise_251 : decode cX5_advise 251 = .ok (.getfield 42, 3) := by decide +kernel
theorem dX5_advise_254 : decode cX5_advise 254 = .ok (.iconst 2, 1) := by decide +kernel
theorem dX5_advise_255 : decode cX5_advise 255 = .ok (.iaload, 1) := by decide +kernel
theorem dX5_advise_256 : decode cX5_advise 256 = .ok (.iconst 1, 1) := by decide +kernel
theorem dX5_advise_257 : decode cX5_advise 257 = .ok (.iadd, 1) := by decide +kernel
theorem dX5_advise_258 : decode cX5_advise 258 = .ok (.goto 9, 3) := by decide +kernel
theorem dX5_advise_261 : decode cX5_advise 261 = .ok (.aload_n 0, 1) := by decide +kernel
theorem dX5_advise_262 : decode cX5_advise 262 = .ok (.getfield 42, 3) := by decide +kernel
theorem dX5_advise_265 : decode cX5_advise 265 = .ok (.iconst 2, 1) := by decide +kernel
theorem dX5_advise_266 : decode cX5_advise 266 = .ok (.iaload, 1) := by decide +kernel
theorem dX5_advise_267 : decode cX5_advise 267 = .ok (.iastore, 1) := by decide +kernel
theorem dX5_advise_268 : decode cX5_advise 268 = .ok (.aload_n 0, 1) := by decide +kernel
theorem dX5_advise_269 : decode cX5_advise 269 = .ok (.getfield 26, 3) := by decide +kernel
theorem dX5_advise_272 : decode cX5_advise 272 = .ok (.iload_n 1, 1) := by decide +kernel
theorem dX5_advise_273 : decode cX5_advise 273 = .ok (.iload_n 3, 1) := by decide +kernel
theorem dX5_advise_274 : decode cX5_advise 274 = .ok (.iastore, 1) := by decide +kernel
theorem dX5_advise_275 : decode cX5_advise 275 = .ok (.return_, 1) := by decide +kernel
theorem dX5_step_0 : decode cX5_step 0 = .ok (.aload_n 0, 1) := by decide +kernel
theorem dX5_step_1 : decode cX5_step 1 = .ok (.iload_n 1, 1) := by decide +kernel
theorem dX5_step_2 : decode cX5_step 2 = .ok (.ifCond .lt 10, 3) := by decide +kernel
theorem dX5_step_5 : decode cX5_step 5 = .ok (.iload_n 1, 1) := by decide +kernel
theorem dX5_step_6 : decode cX5_step 6 = .ok (.sipush 300, 3) := by decide +kernel
theorem dX5_step_9 : decode cX5_step 9 = .ok (.if_icmp .le 7, 3) := by decide +kernel
theorem dX5_step_12 : decode cX5_step 12 = .ok (.iconst 1, 1) := by decide +kernel
theorem dX5_step_13 : decode cX5_step 13 = .ok (.goto 4, 3) := by decide +kernel
theorem dX5_step_16 : decode cX5_step 16 = .ok (.iconst 0, 1) := by decide +kernel
theorem dX5_step_17 : decode cX5_step 17 = .ok (.putfield 45, 3) := by decide +kernel
theorem dX5_step_20 : decode cX5_step 20 = .ok (.aload_n 0, 1) := by decide +kernel
theorem dX5_step_21 : decode cX5_step 21 = .ok (.getfield 45, 3) := by decide +kernel
theorem dX5_step_24 : decode cX5_step 24 = .ok (.ifCond .le 5, 3) := by decide +kernel
theorem dX5_step_27 : decode cX5_step 27 = .ok (.iconst 0, 1) := by decide +kernel
theorem dX5_step_28 : decode cX5_step 28 = .ok (.ireturn, 1) := by decide +kernel
theorem dX5_step_29 : decode cX5_step 29 = .ok (.iconst 0, 1) := by decide +kernel
theorem dX5_step_30 : decode cX5_step 30 = .ok (.istore_n 2, 1) := by decide +kernel
theorem dX5_step_31 : decode cX5_step 31 = .ok (.iload_n 2, 1) := by decide +kernel
theorem dX5_step_32 : decode cX5_step 32 = .ok (.iload_n 1, 1) := by decide +kernel
theorem dX5_step_33 : decode cX5_step 33 = .ok (.if_icmp .ge 129, 3) := by decide +kernel
theorem dX5_step_36 : decode cX5_step 36 = .ok (.aload_n 0, 1) := by decide +kernel
theorem dX5_step_37 : decode cX5_step 37 = .ok (.invokevirtual 141, 3) := by decide +kernel
theorem dX5_step_40 : decode cX5_step 40 = .ok (.iconst 0, 1) := by decide +kernel
theorem dX5_step_41 : decode cX5_step 41 = .ok (.istore_n 3, 1) := by decide +kernel
theorem dX5_step_42 : decode cX5_step 42 = .ok (.iload_n 3, 1) := by decide +kernel
theorem dX5_step_43 : decode cX5_step 43 = .ok (.bipush 6, 2) := by decide +kernel
theorem dX5_step_45 : decode cX5_step 45 = .ok (.if_icmp .ge 32, 3) := by decide +kernel
theorem dX5_step_48 : decode cX5_step 48 = .ok (.aload_n 0, 1) := by decide +kernel
theorem dX5_step_49 : decode cX5_step 49 = .ok (.getfield 13, 3) := by decide +kernel
theorem dX5_step_52 : decode cX5_step 52 = .ok (.iload_n 3, 1) := by decide +kernel
theorem dX5_step_53 : decode cX5_step 53 = .ok (.baload, 1) := by decide +kernel
theorem dX5_step_54 : decode cX5_step 54 = .ok (.ifCond .eq 17, 3) := by decide +kernel
theorem dX5_step_57 : decode cX5_step 57 = .ok (.aload_n 0, 1) := by decide +kernel
theorem dX5_step_58 : decode cX5_step 58 = .ok (.getfield 17, 3) := by decide +kernel
theorem dX5_step_61 : decode cX5_step 61 = .ok (.iload_n 3, 1) := by decide +kernel
theorem dX5_step_62 : decode cX5_step 62 = .ok (.baload, 1) := by decide +kernel
theorem dX5_step_63 : decode cX5_step 63 = .ok (.ifCond .eq 8, 3) := by decide +kernel
theorem dX5_step_66 : decode cX5_step 66 = .ok (.aload_n 0, 1) := by decide +kernel
theorem dX5_step_67 : decode cX5_step 67 = .ok (.iload_n 3, 1) := by decide +kernel
theorem dX5_step_68 : decode cX5_step 68 = .ok (.invokevirtual 144, 3) := by decide +kernel
theorem dX5_step_71 : decode cX5_step 71 = .ok (.iinc 3 1, 3) := by decide +kernel
theorem dX5_step_74 : decode cX5_step 74 = .ok (.goto (-32), 3) := by decide +kernel
theorem dX5_step_77 : decode cX5_step 77 = .ok (.iconst 0, 1) := by decide +kernel
theorem dX5_step_78 : decode cX5_step 78 = .ok (.istore_n 3, 1) := by decide +kernel
theorem dX5_step_79 : decode cX5_step 79 = .ok (.iload_n 3, 1) := by decide +kernel
theorem dX5_step_80 : decode cX5_step 80 = .ok (.bipush 6, 2) := by decide +kernel
theorem dX5_step_82 : decode cX5_step 82 = .ok (.if_icmp .ge 64, 3) := by decide +kernel
theorem dX5_step_85 : decode cX5_step 85 = .ok (.iload_n 3, 1) := by decide +kernel
theorem dX5_step_86 : decode cX5_step 86 = .ok (.iconst 1, 1) := by decide +kernel
theorem dX5_step_87 : decode cX5_step 87 = .ok (.iadd, 1) := by decide +kernel
theorem dX5_step_88 : decode cX5_step 88 = .ok (.istore 4, 2) := by decide +kernel
theorem dX5_step_90 : decode cX5_step 90 = .ok (.iload 4, 2) := by decide +kernel
theorem dX5_step_92 : decode cX5_step 92 = .ok (.bipush 6, 2) := by decide +kernel
theorem dX5_step_94 : decode cX5_step 94 = .ok (.if_icmp .ge 46, 3) := by decide +kernel
theorem dX5_step_97 : decode cX5_step 97 = .ok (.aload_n 0, 1) := by decide +kernel
theorem dX5_step_98 : decode cX5_step 98 = .ok (.getfield 13, 3) := by decide +kernel
theorem dX5_step_101 : decode cX5_step 101 = .ok (.iload_n 3, 1) := by decide +kernel
theorem dX5_step_102 : decode cX5_step 102 = .ok (.baload, 1) := by decide +kernel
theorem dX5_step_103 : decode cX5_step 103 = .ok (.ifCond .eq 31, 3) := by decide +kernel
theorem dX5_step_106 : decode cX5_step 106 = .ok (.aload_n 0, 1) := by decide +kernel
theorem dX5_step_107 : decode cX5_step 107 = .ok (.getfield 13, 3) := by decide +kernel
theorem dX5_step_110 : decode cX5_step 110 = .ok (.iload 4, 2) := by decide +kernel
theorem dX5_step_112 : decode cX5_step 112 = .ok (.baload, 1) := by decide +kernel
theorem dX5_step_113 : decode cX5_step 113 = .ok (.ifCond .eq 21, 3) := by decide +kernel
theorem dX5_step_116 : decode cX5_step 116 = .ok (.aload_n 0, 1) := by decide +kernel
theorem dX5_step_117 : decode cX5_step 117 = .ok (.iload_n 3, 1) := by decide +kernel
theorem dX5_step_118 : decode cX5_step 118 = .ok (.iload 4, 2) := by decide +kernel
theorem dX5_step_120 : decode cX5_step 120 = .ok (.invokevirtual 147, 3) := by decide +kernel
theorem dX5_step_123 : decode cX5_step 123 = .ok (.aload_n 0, 1) := by decide +kernel
theorem dX5_step_124 : decode cX5_step 124 = .ok (.bipush 6, 2) := by decide +kernel
theorem dX5_step_126 : decode cX5_step 126 = .ok (.iload_n 3, 1) := by decide +kernel
theorem dX5_step_127 : decode cX5_step 127 = .ok (.imul, 1) := by decide +kernel
theorem dX5_step_128 : decode cX5_step 128 = .ok (.iload 4, 2) := by decide +kernel
theorem dX5_step_130 : decode cX5_step 130 = .ok (.iadd, 1) := by decide +kernel
theorem dX5_step_131 : decode cX5_step 131 = .ok (.invokevirtual 150, 3) := by decide +kernel
theorem dX5_step_134 : decode cX5_step 134 = .ok (.iinc 4 1, 3) := by decide +kernel
theorem dX5_step_137 : decode cX5_step 137 = .ok (.goto (-47), 3) := by decide +kernel
theorem dX5_step_140 : decode cX5_step 140 = .ok (.iinc 3 1, 3) := by decide +kernel
theorem dX5_step_143 : decode cX5_step 143 = .ok (.goto (-64), 3) := by decide +kernel
theorem dX5_step_146 : decode cX5_step 146 = .ok (.aload_n 0, 1) := by decide +kernel
theorem dX5_step_147 : decode cX5_step 147 = .ok (.getfield 42, 3) := by decide +kernel
theorem dX5_step_150 : decode cX5_step 150 = .ok (.iconst 4, 1) := by decide +kernel
theorem dX5_step_151 : decode cX5_step 151 = .ok (.dup2, 1) := by decide +kernel
theorem dX5_step_152 : decode cX5_step 152 = .ok (.iaload, 1) := by decide +kernel
theorem dX5_step_153 : decode cX5_step 153 = .ok (.iconst 1, 1) := by decide +kernel
theorem dX5_step_154 : decode cX5_step 154 = .ok (.iadd, 1) := by decide +kernel
theorem dX5_step_155 : decode cX5_step 155 = .ok (.iastore, 1) := by decide +kernel
theorem dX5_step_156 : decode cX5_step 156 = .ok (.iinc 2 1, 3) := by decide +kernel
theorem dX5_step_159 : decode cX5_step 159 = .ok (.goto (-128), 3) := by decide +kernel
theorem dX5_step_162 : decode cX5_step 162 = .ok (.iconst 0, 1) := by decide +kernel
theorem dX5_step_163 : decode cX5_step 163 = .ok (.istore_n 2, 1) := by decide +kernel
theorem dX5_step_164 : decode cX5_step 164 = .ok (.iconst 0, 1) := by decide +kernel
theorem dX5_step_165 : decode cX5_step 165 = .ok (.istore_n 3, 1) := by decide +kernel
theorem dX5_step_166 : decode cX5_step 166 = .ok (.iload_n 3, 1) := by decide +kernel
theorem dX5_step_167 : decode cX5_step 167 = .ok (.bipush 36, 2) := by decide +kernel
theorem dX5_step_169 : decode cX5_step 169 = .ok (.if_icmp .ge 26, 3) := by decide +kernel
theorem dX5_step_172 : decode cX5_step 172 = .ok (.aload_n 0, 1) := by decide +kernel
theorem dX5_step_173 : decode cX5_step 173 = .ok (.getfield 23, 3) := by decide +kernel
theorem dX5_step_176 : decode cX5_step 176 = .ok (.iload_n 3, 1) := by decide +kernel
theorem dX5_step_177 : decode cX5_step 177 = .ok (.iaload, 1) := by decide +kernel
theorem dX5_step_178 : decode cX5_step 178 = .ok (.ifCond .le 9, 3) := by decide +kernel
theorem dX5_step_181 : decode cX5_step 181 = .ok (.iload_n 2, 1) := by decide +kernel
theorem dX5_step_182 : decode cX5_step 182 = .ok (.iconst 1, 1) := by decide +kernel
theorem dX5_step_183 : decode cX5_step 183 = .ok (.iadd, 1) := by decide +kernel
theorem dX5_step_184 : decode cX5_step 184 = .ok (.goto 4, 3) := by decide +kernel
theorem dX5_step_187 : decode cX5_step 187 = .ok (.iload_n 2, 1) := by decide +kernel
theorem dX5_step_188 : decode cX5_step 188 = .ok (.istore_n 2, 1) := by decide +kernel
theorem dX5_step_189 : decode cX5_step 189 = .ok (.iinc 3 1, 3) := by decide +kernel
theorem dX5_step_192 : decode cX5_step 192 = .ok (.goto (-26), 3) := by decide +kernel
theorem dX5_step_195 : decode cX5_step 195 = .ok (.iload_n 2, 1) := by decide +kernel
theorem dX5_step_196 : decode cX5_step 196 = .ok (.ireturn, 1) := by decide +kernel
theorem dX5_told_0 : decode cX5_told 0 = .ok (.aload_n 0, 1) := by decide +kernel
theorem dX5_told_1 : decode cX5_told 1 = .ok (.aload_n 0, 1) := by decide +kernel
theorem dX5_told_2 : decode cX5_told 2 = .ok (.iload_n 1, 1) := by decide +kernel
theorem dX5_told_3 : decode cX5_told 3 = .ok (.invokevirtual 73, 3) := by decide +kernel
theorem dX5_told_6 : decode cX5_told 6 = .ok (.ifCond .eq 13, 3) := by decide +kernel
theorem dX5_told_9 : decode cX5_told 9 = .ok (.iload_n 2, 1) := by decide +kernel
theorem dX5_told_10 : decode cX5_told 10 = .ok (.ifCond .lt 9, 3) := by decide +kernel
theorem dX5_told_13 : decode cX5_told 13 = .ok (.iload_n 2, 1) := by decide +kernel
theorem dX5_told_14 : decode cX5_told 14 = .ok (.bipush 6, 2) := by decide +kernel
theorem dX5_told_16 : decode cX5_told 16 = .ok (.if_icmp .le 7, 3) := by decide +kernel
theorem dX5_told_19 : decode cX5_told 19 = .ok (.iconst 1, 1) := by decide +kernel
theorem dX5_told_20 : decode cX5_told 20 = .ok (.goto 4, 3) := by decide +kernel
theorem dX5_told_23 : decode cX5_told 23 = .ok (.iconst 0, 1) := by decide +kernel
theorem dX5_told_24 : decode cX5_told 24 = .ok (.putfield 45, 3) := by decide +kernel
theorem dX5_told_27 : decode cX5_told 27 = .ok (.aload_n 0, 1) := by decide +kernel
theorem dX5_told_28 : decode cX5_told 28 = .ok (.getfield 45, 3) := by decide +kernel
theorem dX5_told_31 : decode cX5_told 31 = .ok (.ifCond .le 5, 3) := by decide +kernel
theorem dX5_told_34 : decode cX5_told 34 = .ok (.iconst 0, 1) := by decide +kernel
theorem dX5_told_35 : decode cX5_told 35 = .ok (.ireturn, 1) := by decide +kernel
theorem dX5_told_36 : decode cX5_told 36 = .ok (.iload_n 2, 1) := by decide +kernel
theorem dX5_told_37 : decode cX5_told 37 = .ok (.bipush 6, 2) := by decide +kernel
theorem dX5_told_39 : decode cX5_told 39 = .ok (.if_icmp .ge 17, 3) := by decide +kernel
theorem dX5_told_42 : decode cX5_told 42 = .ok (.aload_n 0, 1) := by decide +kernel
theorem dX5_told_43 : decode cX5_told 43 = .ok (.getfield 20, 3) := by decide +kernel
theorem dX5_told_46 : decode cX5_told 46 = .ok (.bipush 6, 2) := by decide +kernel
theorem dX5_told_48 : decode cX5_told 48 = .ok (.iload_n 1, 1) := by decide +kernel
theorem dX5_told_49 : decode cX5_told 49 = .ok (.imul, 1) := by decide +kernel
theorem dX5_told_50 : decode cX5_told 50 = .ok (.iload_n 2, 1) := by decide +kernel
theorem dX5_told_51 : decode cX5_told 51 = .ok (.iadd, 1) := by decide +kernel
theorem dX5_told_52 : decode cX5_told 52 = .ok (.iaload, 1) := by decide +kernel
theorem dX5_told_53 : decode cX5_told 53 = .ok (.goto 17, 3) := by decide +kernel
theorem dX5_told_56 : decode cX5_told 56 = .ok (.aload_n 0, 1) := by decide +kernel
theorem dX5_told_57 : decode cX5_told 57 = .ok (.getfield 17, 3) := by decide +kernel
theorem dX5_told_60 : decode cX5_told 60 = .ok (.iload_n 1, 1) := by decide +kernel
theorem dX5_told_61 : decode cX5_told 61 = .ok (.baload, 1) := by decide +kernel
theorem dX5_told_62 : decode cX5_told 62 = .ok (.ifCond .eq 7, 3) := by decide +kernel
theorem dX5_told_65 : decode cX5_told 65 = .ok (.iconst 1, 1) := by decide +kernel
theorem dX5_told_66 : decode cX5_told 66 = .ok (.goto 4, 3) := by decide +kernel
theorem dX5_told_69 : decode cX5_told 69 = .ok (.iconst 0, 1) := by decide +kernel
theorem dX5_told_70 : decode cX5_told 70 = .ok (.ireturn, 1) := by decide +kernel
theorem dX5_forFirst_0 : decode cX5_forFirst 0 = .ok (.iload_n 0, 1) := by decide +kernel
theorem dX5_forFirst_1 : decode cX5_forFirst 1 = .ok (.ifCond .ne 7, 3) := by decide +kernel
theorem dX5_forFirst_4 : decode cX5_forFirst 4 = .ok (.iconst 0, 1) := by decide +kernel
theorem dX5_forFirst_5 : decode cX5_forFirst 5 = .ok (.goto 14, 3) := by decide +kernel
theorem dX5_forFirst_8 : decode cX5_forFirst 8 = .ok (.iload_n 1, 1) := by decide +kernel
theorem dX5_forFirst_9 : decode cX5_forFirst 9 = .ok (.ifCond .eq 9, 3) := by decide +kernel
theorem dX5_forFirst_12 : decode cX5_forFirst 12 = .ok (.iconst 3, 1) := by decide +kernel
theorem dX5_forFirst_13 : decode cX5_forFirst 13 = .ok (.iload_n 0, 1) := by decide +kernel
theorem dX5_forFirst_14 : decode cX5_forFirst 14 = .ok (.isub, 1) := by decide +kernel
theorem dX5_forFirst_15 : decode cX5_forFirst 15 = .ok (.goto 4, 3) := by decide +kernel
theorem dX5_forFirst_18 : decode cX5_forFirst 18 = .ok (.iload_n 0, 1) := by decide +kernel
theorem dX5_forFirst_19 : decode cX5_forFirst 19 = .ok (.ireturn, 1) := by decide +kernel
theorem dX5_pair_0 : decode cX5_pair 0 = .ok (.aload_n 0, 1) := by decide +kernel
theorem dX5_pair_1 : decode cX5_pair 1 = .ok (.aload_n 0, 1) := by decide +kernel
theorem dX5_pair_2 : decode cX5_pair 2 = .ok (.iload_n 1, 1) := by decide +kernel
theorem dX5_pair_3 : decode cX5_pair 3 = .ok (.invokevirtual 73, 3) := by decide +kernel
theorem dX5_pair_6 : decode cX5_pair 6 = .ok (.ifCond .eq 26, 3) := by decide +kernel
theorem dX5_pair_9 : decode cX5_pair 9 = .ok (.aload_n 0, 1) := by decide +kernel
theorem dX5_pair_10 : decode cX5_pair 10 = .ok (.iload_n 2, 1) := by decide +kernel
theorem dX5_pair_11 : decode cX5_pair 11 = .ok (.invokevirtual 73, 3) := by decide +kernel
theorem dX5_pair_14 : decode cX5_pair 14 = .ok (.ifCond .eq 18, 3) := by decide +kernel
theorem dX5_pair_17 : decode cX5_pair 17 = .ok (.iload_n 1, 1) := by decide +kernel
theorem dX5_pair_18 : decode cX5_pair 18 = .ok (.iload_n 2, 1) := by decide +kernel
theorem dX5_pair_19 : decode cX5_pair 19 = .ok (.if_icmp .eq 13, 3) := by decide +kernel
theorem dX5_pair_22 : decode cX5_pair 22 = .ok (.iload_n 3, 1) := by decide +kernel
theorem dX5_pair_23 : decode cX5_pair 23 = .ok (.ifCond .lt 9, 3) := by decide +kernel
theorem dX5_pair_26 : decode cX5_pair 26 = .ok (.iload_n 3, 1) := by decide +kernel
theorem dX5_pair_27 : decode cX5_pair 27 = .ok (.bipush 10, 2) := by decide +kernel
theorem dX5_pair_29 : decode cX5_pair 29 = .ok (.if_icmp .le 7, 3) := by decide +kernel
theorem dX5_pair_32 : decode cX5_pair 32 = .ok (.iconst 1, 1) := by decide +kernel
theorem dX5_pair_33 : decode cX5_pair 33 = .ok (.goto 4, 3) := by decide +kernel
theorem dX5_pair_36 : decode cX5_pair 36 = .ok (.iconst 0, 1) := by decide +kernel
theorem dX5_pair_37 : decode cX5_pair 37 = .ok (.putfield 45, 3) := by decide +kernel
theorem dX5_pair_40 : decode cX5_pair 40 = .ok (.aload_n 0, 1) := by decide +kernel
theorem dX5_pair_41 : decode cX5_pair 41 = .ok (.getfield 45, 3) := by decide +kernel
theorem dX5_pair_44 : decode cX5_pair 44 = .ok (.ifCond .le 5, 3) := by decide +kernel
theorem dX5_pair_47 : decode cX5_pair 47 = .ok (.iconst 0, 1) := by decide +kernel
theorem dX5_pair_48 : decode cX5_pair 48 = .ok (.ireturn, 1) := by decide +kernel
theorem dX5_pair_49 : decode cX5_pair 49 = .ok (.aload_n 0, 1) := by decide +kernel
theorem dX5_pair_50 : decode cX5_pair 50 = .ok (.iload_n 1, 1) := by decide +kernel
theorem dX5_pair_51 : decode cX5_pair 51 = .ok (.iload_n 2, 1) := by decide +kernel
theorem dX5_pair_52 : decode cX5_pair 52 = .ok (.invokevirtual 147, 3) := by decide +kernel
theorem dX5_pair_55 : decode cX5_pair 55 = .ok (.iload_n 1, 1) := by decide +kernel
theorem dX5_pair_56 : decode cX5_pair 56 = .ok (.iload_n 2, 1) := by decide +kernel
theorem dX5_pair_57 : decode cX5_pair 57 = .ok (.invokestatic 53, 3) := by decide +kernel
theorem dX5_pair_60 : decode cX5_pair 60 = .ok (.istore 4, 2) := by decide +kernel
theorem dX5_pair_62 : decode cX5_pair 62 = .ok (.iload_n 3, 1) := by decide +kernel
theorem dX5_pair_63 : decode cX5_pair 63 = .ok (.tableswitch 234 0 9 #[53, 66, 72, 93, 101, 109, 125, 166, 187, 205], 53) := by decide +kernel
theorem dX5_pair_116 : decode cX5_pair 116 = .ok (.aload_n 0, 1) := by decide +kernel
theorem dX5_pair_117 : decode cX5_pair 117 = .ok (.invokevirtual 130, 3) := by decide +kernel
theorem dX5_pair_120 : decode cX5_pair 120 = .ok (.ifCond .eq 7, 3) := by decide +kernel
theorem dX5_pair_123 : decode cX5_pair 123 = .ok (.iconst 1, 1) := by decide +kernel
theorem dX5_pair_124 : decode cX5_pair 124 = .ok (.goto 4, 3) := by decide +kernel
theorem dX5_pair_127 : decode cX5_pair 127 = .ok (.iconst 0, 1) := by decide +kernel
theorem dX5_pair_128 : decode cX5_pair 128 = .ok (.ireturn, 1) := by decide +kernel
theorem dX5_pair_129 : decode cX5_pair 129 = .ok (.aload_n 0, 1) := by decide +kernel
theorem dX5_pair_130 : decode cX5_pair 130 = .ok (.getfield 104, 3) := by decide +kernel
theorem dX5_pair_133 : decode cX5_pair 133 = .ok (.l2i, 1) := by decide +kernel
theorem dX5_pair_134 : decode cX5_pair 134 = .ok (.ireturn, 1) := by decide +kernel
theorem dX5_pair_135 : decode cX5_pair 135 = .ok (.aload_n 0, 1) := by decide +kernel
theorem dX5_pair_136 : decode cX5_pair 136 = .ok (.getfield 23, 3) := by decide +kernel
theorem dX5_pair_139 : decode cX5_pair 139 = .ok (.iload 4, 2) := by decide +kernel
theorem dX5_pair_141 : decode cX5_pair 141 = .ok (.iaload, 1) := by decide +kernel
theorem dX5_pair_142 : decode cX5_pair 142 = .ok (.iload_n 1, 1) := by decide +kernel
theorem dX5_pair_143 : decode cX5_pair 143 = .ok (.iload_n 2, 1) := by decide +kernel
theorem dX5_pair_144 : decode cX5_pair 144 = .ok (.if_icmp .le 7, 3) := by decide +kernel
theorem dX5_pair_147 : decode cX5_pair 147 = .ok (.iconst 1, 1) := by decide +kernel
theorem dX5_pair_148 : decode cX5_pair 148 = .ok (.goto 4, 3) := by decide +kernel
theorem dX5_pair_151 : decode cX5_pair 151 = .ok (.iconst 0, 1) := by decide +kernel
theorem dX5_pair_152 : decode cX5_pair 152 = .ok (.invokestatic 153, 3) := by decide +kernel
theorem dX5_pair_155 : decode cX5_pair 155 = .ok (.ireturn, 1) := by decide +kernel
theorem dX5_pair_156 : decode cX5_pair 156 = .ok (.aload_n 0, 1) := by decide +kernel
theorem dX5_pair_157 : decode cX5_pair 157 = .ok (.getfield 26, 3) := by decide +kernel
theorem dX5_pair_160 : decode cX5_pair 160 = .ok (.iload 4, 2) := by decide +kernel
theorem dX5_pair_162 : decode cX5_pair 162 = .ok (.iaload, 1) := by decide +kernel
theorem dX5_pair_163 : decode cX5_pair 163 = .ok (.ireturn, 1) := by decide +kernel
theorem dX5_pair_164 : decode cX5_pair 164 = .ok (.aload_n 0, 1) := by decide +kernel
theorem dX5_pair_165 : decode cX5_pair 165 = .ok (.getfield 29, 3) := by decide +kernel
theorem dX5_pair_168 : decode cX5_pair 168 = .ok (.iload 4, 2) := by decide +kernel
theorem dX5_pair_170 : decode cX5_pair 170 = .ok (.iaload, 1) := by decide +kernel
theorem dX5_pair_171 : decode cX5_pair 171 = .ok (.ireturn, 1) := by decide +kernel
theorem dX5_pair_172 : decode cX5_pair 172 = .ok (.aload_n 0, 1) := by decide +kernel
theorem dX5_pair_173 : decode cX5_pair 173 = .ok (.getfield 32, 3) := by decide +kernel
theorem dX5_pair_176 : decode cX5_pair 176 = .ok (.iload 4, 2) := by decide +kernel
theorem dX5_pair_178 : decode cX5_pair 178 = .ok (.baload, 1) := by decide +kernel
theorem dX5_pair_179 : decode cX5_pair 179 = .ok (.ifCond .eq 7, 3) := by decide +kernel
theorem dX5_pair_182 : decode cX5_pair 182 = .ok (.iconst 1, 1) := by decide +kernel
theorem dX5_pair_183 : decode cX5_pair 183 = .ok (.goto 4, 3) := by decide +kernel
theorem dX5_pair_186 : decode cX5_pair 186 = .ok (.iconst 0, 1) := by decide +kernel
theorem dX5_pair_187 : decode cX5_pair 187 = .ok (.ireturn, 1) := by decide +kernel
theorem dX5_pair_188 : decode cX5_pair 188 = .ok (.aload_n 0, 1) := by decide +kernel
theorem dX5_pair_189 : decode cX5_pair 189 = .ok (.getfield 23, 3) := by decide +kernel
theorem dX5_pair_192 : decode cX5_pair 192 = .ok (.iload 4, 2) := by decide +kernel
theorem dX5_pair_194 : decode cX5_pair 194 = .ok (.iaload, 1) := by decide +kernel
theorem dX5_pair_195 : decode cX5_pair 195 = .ok (.ifCond .ne 7, 3) := by decide +kernel
theorem dX5_pair_198 : decode cX5_pair 198 = .ok (.iconst 0, 1) := by decide +kernel
theorem dX5_pair_199 : decode cX5_pair 199 = .ok (.goto 29, 3) := by decide +kernel
theorem dX5_pair_202 : decode cX5_pair 202 = .ok (.aload_n 0, 1) := by decide +kernel
theorem dX5_pair_203 : decode cX5_pair 203 = .ok (.aload_n 0, 1) := by decide +kernel
theorem dX5_pair_204 : decode cX5_pair 204 = .ok (.getfield 23, 3) := by decide +kernel
theorem dX5_pair_207 : decode cX5_pair 207 = .ok (.iload 4, 2) := by decide +kernel
theorem dX5_pair_209 : decode cX5_pair 209 = .ok (.iaload, 1) := by decide +kernel
theorem dX5_pair_210 : decode cX5_pair 210 = .ok (.aload_n 0, 1) := by decide +kernel
theorem dX5_pair_211 : decode cX5_pair 211 = .ok (.getfield 26, 3) := by decide +kernel
theorem dX5_pair_214 : decode cX5_pair 214 = .ok (.iload 4, 2) := by decide +kernel
theorem dX5_pair_216 : decode cX5_pair 216 = .ok (.iaload, 1) := by decide +kernel
theorem dX5_pair_217 : decode cX5_pair 217 = .ok (.aload_n 0, 1) := by decide +kernel
theorem dX5_pair_218 : decode cX5_pair 218 = .ok (.getfield 29, 3) := by decide +kernel
theorem dX5_pair_221 : decode cX5_pair 221 = .ok (.iload 4, 2) := by decide +kernel
theorem dX5_pair_223 : decode cX5_pair 223 = .ok (.iaload, 1) := by decide +kernel
theorem dX5_pair_224 : decode cX5_pair 224 = .ok (.invokevirtual 119, 3) := by decide +kernel
theorem dX5_pair_227 : decode cX5_pair 227 = .ok (.l2i, 1) := by decide +kernel
theorem dX5_pair_228 : decode cX5_pair 228 = .ok (.ireturn, 1) := by decide +kernel
theorem dX5_pair_229 : decode cX5_pair 229 = .ok (.aload_n 0, 1) := by decide +kernel
theorem dX5_pair_230 : decode cX5_pair 230 = .ok (.aload_n 0, 1) := by decide +kernel
theorem dX5_pair_231 : decode cX5_pair 231 = .ok (.invokevirtual 134, 3) := by decide +kernel
theorem dX5_pair_234 : decode cX5_pair 234 = .ok (.aload_n 0, 1) := by decide +kernel
theorem dX5_pair_235 : decode cX5_pair 235 = .ok (.aload_n 0, 1) := by decide +kernel
theorem dX5_pair_236 : decode cX5_pair 236 = .ok (.invokevirtual 134, 3) := by decide +kernel
theorem dX5_pair_239 : decode cX5_pair 239 = .ok (.iconst 1, 1) := by decide +kernel
theorem dX5_pair_240 : decode cX5_pair 240 = .ok (.iconst 0, 1) := by decide +kernel
theorem dX5_pair_241 : decode cX5_pair 241 = .ok (.invokevirtual 123, 3) := by decide +kernel
theorem dX5_pair_244 : decode cX5_pair 244 = .ok (.iconst 0, 1) := by decide +kernel
theorem dX5_pair_245 : decode cX5_pair 245 = .ok (.invokevirtual 119, 3) := by decide +kernel
theorem dX5_pair_248 : decode cX5_pair 248 = .ok (.l2i, 1) := by decide +kernel
theorem dX5_pair_249 : decode cX5_pair 249 = .ok (.ireturn, 1) := by decide +kernel
theorem dX5_pair_250 : decode cX5_pair 250 = .ok (.aload_n 0, 1) := by decide +kernel
theorem dX5_pair_251 : decode cX5_pair 251 = .ok (.invokevirtual 134, 3) := by decide +kernel
theorem dX5_pair_254 : decode cX5_pair 254 = .ok (.iload_n 1, 1) := by decide +kernel
theorem dX5_pair_255 : decode cX5_pair 255 = .ok (.iload_n 2, 1) := by decide +kernel
theorem dX5_pair_256 : decode cX5_pair 256 = .ok (.if_icmp .le 7, 3) := by decide +kernel
theorem dX5_pair_259 : decode cX5_pair 259 = .ok (.iconst 1, 1) := by decide +kernel
theorem dX5_pair_260 : decode cX5_pair 260 = .ok (.goto 4, 3) := by decide +kernel
theorem dX5_pair_263 : decode cX5_pair 263 = .ok (.iconst 0, 1) := by decide +kernel
theorem dX5_pair_264 : decode cX5_pair 264 = .ok (.invokestatic 153, 3) := by decide +kernel
theorem dX5_pair_267 : decode cX5_pair 267 = .ok (.ireturn, 1) := by decide +kernel
theorem dX5_pair_268 : decode cX5_pair 268 = .ok (.aload_n 0, 1) := by decide +kernel
theorem dX5_pair_269 : decode cX5_pair 269 = .ok (.getfield 35, 3) := by decide +kernel
theorem dX5_pair_272 : decode cX5_pair 272 = .ok (.iload 4, 2) := by decide +kernel
theorem dX5_pair_274 : decode cX5_pair 274 = .ok (.laload, 1) := by decide +kernel
theorem dX5_pair_275 : decode cX5_pair 275 = .ok (.ldc2_w 157, 3) := by decide +kernel
theorem dX5_pair_278 : decode cX5_pair 278 = .ok (.lcmp, 1) := by decide +kernel
theorem dX5_pair_279 : decode cX5_pair 279 = .ok (.ifCond .le 9, 3) := by decide +kernel
theorem dX5_pair_282 : decode cX5_pair 282 = .ok (.ldc2_w 157, 3) := by decide +kernel
theorem dX5_pair_285 : decode cX5_pair 285 = .ok (.goto 10, 3) := by decide +kernel
theorem dX5_pair_288 : decode cX5_pair 288 = .ok (.aload_n 0, 1) := by decide +kernel
theorem dX5_pair_289 : decode cX5_pair 289 = .ok (.getfield 35, 3) := by decide +kernel
theorem dX5_pair_292 : decode cX5_pair 292 = .ok (.iload 4, 2) := by decide +kernel
theorem dX5_pair_294 : decode cX5_pair 294 = .ok (.laload, 1) := by decide +kernel
theorem dX5_pair_295 : decode cX5_pair 295 = .ok (.l2i, 1) := by decide +kernel
theorem dX5_pair_296 : decode cX5_pair 296 = .ok (.ireturn, 1) := by decide +kernel
theorem dX5_pair_297 : decode cX5_pair 297 = .ok (.aload_n 0, 1) := by decide +kernel
theorem dX5_pair_298 : decode cX5_pair 298 = .ok (.getfield 39, 3) := by decide +kernel
theorem dX5_pair_301 : decode cX5_pair 301 = .ok (.iload 4, 2) := by decide +kernel
theorem dX5_pair_303 : decode cX5_pair 303 = .ok (.iaload, 1) := by decide +kernel
theorem dX5_pair_304 : decode cX5_pair 304 = .ok (.ireturn, 1) := by decide +kernel
theorem dX5_all_0 : decode cX5_all 0 = .ok (.aload_n 0, 1) := by decide +kernel
theorem dX5_all_1 : decode cX5_all 1 = .ok (.iload_n 1, 1) := by decide +kernel
theorem dX5_all_2 : decode cX5_all 2 = .ok (.ifCond .lt 8, 3) := by decide +kernel
theorem dX5_all_5 : decode cX5_all 5 = .ok (.iload_n 1, 1) := by decide +kernel
theorem dX5_all_6 : decode cX5_all 6 = .ok (.iconst 4, 1) := by decide +kernel
theorem dX5_all_7 : decode cX5_all 7 = .ok (.if_icmp .le 7, 3) := by decide +kernel
theorem dX5_all_10 : decode cX5_all 10 = .ok (.iconst 1, 1) := by decide +kernel
theorem dX5_all_11 : decode cX5_all 11 = .ok (.goto 4, 3) := by decide +kernel
theorem dX5_all_14 : decode cX5_all 14 = .ok (.iconst 0, 1) := by decide +kernel
theorem dX5_all_15 : decode cX5_all 15 = .ok (.putfield 45, 3) := by decide +kernel
theorem dX5_all_18 : decode cX5_all 18 = .ok (.aload_n 0, 1) := by decide +kernel
theorem dX5_all_19 : decode cX5_all 19 = .ok (.getfield 45, 3) := by decide +kernel
theorem dX5_all_22 : decode cX5_all 22 = .ok (.ifCond .le 7, 3) := by decide +kernel
theorem dX5_all_25 : decode cX5_all 25 = .ok (.iconst 0, 1) := by decide +kernel
theorem dX5_all_26 : decode cX5_all 26 = .ok (.goto 9, 3) := by decide +kernel
theorem dX5_all_29 : decode cX5_all 29 = .ok (.aload_n 0, 1) := by decide +kernel
theorem dX5_all_30 : decode cX5_all 30 = .ok (.getfield 42, 3) := by decide +kernel
theorem dX5_all_33 : decode cX5_all 33 = .ok (.iload_n 1, 1) := by decide +kernel
theorem dX5_all_34 : decode cX5_all 34 = .ok (.iaload, 1) := by decide +kernel
theorem dX5_all_35 : decode cX5_all 35 = .ok (.ireturn, 1) := by decide +kernel
theorem dJ9_abs_0f7a4_0 : decode cJ9_abs_0f7a4 0 = .ok (.iload_n 0, 1) := by decide +kernel
theorem dJ9_abs_0f7a4_1 : decode cJ9_abs_0f7a4 1 = .ok (.ifCond .ge 8, 3) := by decide +kernel
theorem dJ9_abs_0f7a4_4 : decode cJ9_abs_0f7a4 4 = .ok (.iload_n 0, 1) := by decide +kernel
theorem dJ9_abs_0f7a4_5 : decode cJ9_abs_0f7a4 5 = .ok (.ineg, 1) := by decide +kernel
theorem dJ9_abs_0f7a4_6 : decode cJ9_abs_0f7a4 6 = .ok (.goto 4, 3) := by decide +kernel
theorem dJ9_abs_0f7a4_9 : decode cJ9_abs_0f7a4 9 = .ok (.iload_n 0, 1) := by decide +kernel
theorem dJ9_abs_0f7a4_10 : decode cJ9_abs_0f7a4 10 = .ok (.ireturn, 1) := by decide +kernel
theorem dJ9_max_7cf53_0 : decode cJ9_max_7cf53 0 = .ok (.iload_n 0, 1) := by decide +kernel
theorem dJ9_max_7cf53_1 : decode cJ9_max_7cf53 1 = .ok (.iload_n 1, 1) := by decide +kernel
theorem dJ9_max_7cf53_2 : decode cJ9_max_7cf53 2 = .ok (.if_icmp .lt 7, 3) := by decide +kernel
theorem dJ9_max_7cf53_5 : decode cJ9_max_7cf53 5 = .ok (.iload_n 0, 1) := by decide +kernel
theorem dJ9_max_7cf53_6 : decode cJ9_max_7cf53 6 = .ok (.goto 4, 3) := by decide +kernel
theorem dJ9_max_7cf53_9 : decode cJ9_max_7cf53 9 = .ok (.iload_n 1, 1) := by decide +kernel
theorem dJ9_max_7cf53_10 : decode cJ9_max_7cf53 10 = .ok (.ireturn, 1) := by decide +kernel
theorem dJ9_min_7cf53_0 : decode cJ9_min_7cf53 0 = .ok (.iload_n 0, 1) := by decide +kernel
theorem dJ9_min_7cf53_1 : decode cJ9_min_7cf53 1 = .ok (.iload_n 1, 1) := by decide +kernel
theorem dJ9_min_7cf53_2 : decode cJ9_min_7cf53 2 = .ok (.if_icmp .gt 7, 3) := by decide +kernel
theorem dJ9_min_7cf53_5 : decode cJ9_min_7cf53 5 = .ok (.iload_n 0, 1) := by decide +kernel
theorem dJ9_min_7cf53_6 : decode cJ9_min_7cf53 6 = .ok (.goto 4, 3) := by decide +kernel
theorem dJ9_min_7cf53_9 : decode cJ9_min_7cf53 9 = .ok (.iload_n 1, 1) := by decide +kernel
theorem dJ9_min_7cf53_10 : decode cJ9_min_7cf53 10 = .ok (.ireturn, 1) := by decide +kernel
theorem dJ9_min_f86c9_0 : decode cJ9_min_f86c9 0 = .ok (.lload_n 0, 1) := by decide +kernel
theorem dJ9_min_f86c9_1 : decode cJ9_min_f86c9 1 = .ok (.lload_n 2, 1) := by decide +kernel
theorem dJ9_min_f86c9_2 : decode cJ9_min_f86c9 2 = .ok (.lcmp, 1) := by decide +kernel
theorem dJ9_min_f86c9_3 : decode cJ9_min_f86c9 3 = .ok (.ifCond .gt 7, 3) := by decide +kernel
theorem dJ9_min_f86c9_6 : decode cJ9_min_f86c9 6 = .ok (.lload_n 0, 1) := by decide +kernel
theorem dJ9_min_f86c9_7 : decode cJ9_min_f86c9 7 = .ok (.goto 4, 3) := by decide +kernel
theorem dJ9_min_f86c9_10 : decode cJ9_min_f86c9 10 = .ok (.lload_n 2, 1) := by decide +kernel
theorem dJ9_min_f86c9_11 : decode cJ9_min_f86c9 11 = .ok (.lreturn, 1) := by decide +kernel
theorem dL_set_0 : decode cL_set 0 = .ok (.aload_n 3, 1) := by decide +kernel
theorem dL_set_1 : decode cL_set 1 = .ok (.iconst 0, 1) := by decide +kernel
theorem dL_set_2 : decode cL_set 2 = .ok (.aload_n 0, 1) := by decide +kernel
theorem dL_set_3 : decode cL_set 3 = .ok (.iload_n 1, 1) := by decide +kernel
theorem dL_set_4 : decode cL_set 4 = .ok (.iload_n 2, 1) := by decide +kernel
theorem dL_set_5 : decode cL_set 5 = .ok (.invokevirtual 7, 3) := by decide +kernel
theorem dL_set_8 : decode cL_set 8 = .ok (.i2l, 1) := by decide +kernel
theorem dL_set_9 : decode cL_set 9 = .ok (.lastore, 1) := by decide +kernel
theorem dL_set_10 : decode cL_set 10 = .ok (.goto 7, 3) := by decide +kernel
theorem dL_set_13 : decode cL_set 13 = .ok (.astore 4, 2) := by decide +kernel
theorem dL_set_15 : decode cL_set 15 = .ok (.iconst 1, 1) := by decide +kernel
theorem dL_set_16 : decode cL_set 16 = .ok (.ireturn, 1) := by decide +kernel
theorem dL_set_17 : decode cL_set 17 = .ok (.iconst 0, 1) := by decide +kernel
theorem dL_set_18 : decode cL_set 18 = .ok (.ireturn, 1) := by decide +kernel
theorem dL_place_0 : decode cL_place 0 = .ok (.aload_n 0, 1) := by decide +kernel
theorem dL_place_1 : decode cL_place 1 = .ok (.iload_n 1, 1) := by decide +kernel
theorem dL_place_2 : decode cL_place 2 = .ok (.iload_n 2, 1) := by decide +kernel
theorem dL_place_3 : decode cL_place 3 = .ok (.iload_n 3, 1) := by decide +kernel
theorem dL_place_4 : decode cL_place 4 = .ok (.iload 4, 2) := by decide +kernel
theorem dL_place_6 : decode cL_place 6 = .ok (.invokevirtual 15, 3) := by decide +kernel
theorem dL_place_9 : decode cL_place 9 = .ok (.goto 7, 3) := by decide +kernel
theorem dL_place_12 : decode cL_place 12 = .ok (.astore 5, 2) := by decide +kernel
theorem dL_place_14 : decode cL_place 14 = .ok (.iconst 1, 1) := by decide +kernel
theorem dL_place_15 : decode cL_place 15 = .ok (.ireturn, 1) := by decide +kernel
theorem dL_place_16 : decode cL_place 16 = .ok (.iconst 0, 1) := by decide +kernel
theorem dL_place_17 : decode cL_place 17 = .ok (.ireturn, 1) := by decide +kernel
theorem dL_speed_0 : decode cL_speed 0 = .ok (.aload_n 0, 1) := by decide +kernel
theorem dL_speed_1 : decode cL_speed 1 = .ok (.iload_n 1, 1) := by decide +kernel
theorem dL_speed_2 : decode cL_speed 2 = .ok (.iload_n 2, 1) := by decide +kernel
theorem dL_speed_3 : decode cL_speed 3 = .ok (.iload_n 3, 1) := by decide +kernel
theorem dL_speed_4 : decode cL_speed 4 = .ok (.iload 4, 2) := by decide +kernel
theorem dL_speed_6 : decode cL_speed 6 = .ok (.invokevirtual 19, 3) := by decide +kernel
theorem dL_speed_9 : decode cL_speed 9 = .ok (.goto 7, 3) := by decide +kernel
theorem dL_speed_12 : decode cL_speed 12 = .ok (.astore 5, 2) := by decide +kernel
theorem dL_speed_14 : decode cL_speed 14 = .ok (.iconst 1, 1) := by decide +kernel
theorem dL_speed_15 : decode cL_speed 15 = .ok (.ireturn, 1) := by decide +kernel
theorem dL_speed_16 : decode cL_speed 16 = .ok (.iconst 0, 1) := by decide +kernel
theorem dL_speed_17 : decode cL_speed 17 = .ok (.ireturn, 1) := by decide +kernel
theorem dL_follow_0 : decode cL_follow 0 = .ok (.aload_n 0, 1) := by decide +kernel
theorem dL_follow_1 : decode cL_follow 1 = .ok (.iload_n 1, 1) := by decide +kernel
theorem dL_follow_2 : decode cL_follow 2 = .ok (.iload_n 2, 1) := by decide +kernel
theorem dL_follow_3 : decode cL_follow 3 = .ok (.invokevirtual 22, 3) := by decide +kernel
theorem dL_follow_6 : decode cL_follow 6 = .ok (.goto 6, 3) := by decide +kernel
theorem dL_follow_9 : decode cL_follow 9 = .ok (.astore_n 3, 1) := by decide +kernel
theorem dL_follow_10 : decode cL_follow 10 = .ok (.iconst 1, 1) := by decide +kernel
theorem dL_follow_11 : decode cL_follow 11 = .ok (.ireturn, 1) := by decide +kernel
theorem dL_follow_12 : decode cL_follow 12 = .ok (.iconst 0, 1) := by decide +kernel
theorem dL_follow_13 : decode cL_follow 13 = .ok (.ireturn, 1) := by decide +kernel
theorem dL_leave_0 : decode cL_leave 0 = .ok (.aload_n 0, 1) := by decide +kernel
theorem dL_leave_1 : decode cL_leave 1 = .ok (.iload_n 1, 1) := by decide +kernel
theorem dL_leave_2 : decode cL_leave 2 = .ok (.invokevirtual 26, 3) := by decide +kernel
theorem dL_leave_5 : decode cL_leave 5 = .ok (.goto 6, 3) := by decide +kernel
theorem dL_leave_8 : decode cL_leave 8 = .ok (.astore_n 2, 1) := by decide +kernel
theorem dL_leave_9 : decode cL_leave 9 = .ok (.iconst 1, 1) := by decide +kernel
theorem dL_leave_10 : decode cL_leave 10 = .ok (.ireturn, 1) := by decide +kernel
theorem dL_leave_11 : decode cL_leave 11 = .ok (.iconst 0, 1) := by decide +kernel
theorem dL_leave_12 : decode cL_leave 12 = .ok (.ireturn, 1) := by decide +kernel
theorem dL_step_0 : decode cL_step 0 = .ok (.aload_n 2, 1) := by decide +kernel
theorem dL_step_1 : decode cL_step 1 = .ok (.iconst 0, 1) := by decide +kernel
theorem dL_step_2 : decode cL_step 2 = .ok (.aload_n 0, 1) := by decide +kernel
theorem dL_step_3 : decode cL_step 3 = .ok (.iload_n 1, 1) := by decide +kernel
theorem dL_step_4 : decode cL_step 4 = .ok (.invokevirtual 30, 3) := by decide +kernel
theorem dL_step_7 : decode cL_step 7 = .ok (.i2l, 1) := by decide +kernel
theorem dL_step_8 : decode cL_step 8 = .ok (.lastore, 1) := by decide +kernel
theorem dL_step_9 : decode cL_step 9 = .ok (.goto 6, 3) := by decide +kernel
theorem dL_step_12 : decode cL_step 12 = .ok (.astore_n 3, 1) := by decide +kernel
theorem dL_step_13 : decode cL_step 13 = .ok (.iconst 1, 1) := by decide +kernel
theorem dL_step_14 : decode cL_step 14 = .ok (.ireturn, 1) := by decide +kernel
theorem dL_step_15 : decode cL_step 15 = .ok (.iconst 0, 1) := by decide +kernel
theorem dL_step_16 : decode cL_step 16 = .ok (.ireturn, 1) := by decide +kernel
theorem dL_told_0 : decode cL_told 0 = .ok (.aload_n 3, 1) := by decide +kernel
theorem dL_told_1 : decode cL_told 1 = .ok (.iconst 0, 1) := by decide +kernel
theorem dL_told_2 : decode cL_told 2 = .ok (.aload_n 0, 1) := by decide +kernel
theorem dL_told_3 : decode cL_told 3 = .ok (.iload_n 1, 1) := by decide +kernel
theorem dL_told_4 : decode cL_told 4 = .ok (.iload_n 2, 1) := by decide +kernel
theorem dL_told_5 : decode cL_told 5 = .ok (.invokevirtual 34, 3) := by decide +kernel
theorem dL_told_8 : decode cL_told 8 = .ok (.i2l, 1) := by decide +kernel
theorem dL_told_9 : decode cL_told 9 = .ok (.lastore, 1) := by decide +kernel
theorem dL_told_10 : decode cL_told 10 = .ok (.goto 7, 3) := by decide +kernel
theorem dL_told_13 : decode cL_told 13 = .ok (.astore 4, 2) := by decide +kernel
theorem dL_told_15 : decode cL_told 15 = .ok (.iconst 1, 1) := by decide +kernel
theorem dL_told_16 : decode cL_told 16 = .ok (.ireturn, 1) := by decide +kernel
theorem dL_told_17 : decode cL_told 17 = .ok (.iconst 0, 1) := by decide +kernel
theorem dL_told_18 : decode cL_told 18 = .ok (.ireturn, 1) := by decide +kernel
theorem dL_pair_0 : decode cL_pair 0 = .ok (.aload 4, 2) := by decide +kernel
theorem dL_pair_2 : decode cL_pair 2 = .ok (.iconst 0, 1) := by decide +kernel
theorem dL_pair_3 : decode cL_pair 3 = .ok (.aload_n 0, 1) := by decide +kernel
theorem dL_pair_4 : decode cL_pair 4 = .ok (.iload_n 1, 1) := by decide +kernel
theorem dL_pair_5 : decode cL_pair 5 = .ok (.iload_n 2, 1) := by decide +kernel
theorem dL_pair_6 : decode cL_pair 6 = .ok (.iload_n 3, 1) := by decide +kernel
theorem dL_pair_7 : decode cL_pair 7 = .ok (.invokevirtual 37, 3) := by decide +kernel
theorem dL_pair_10 : decode cL_pair 10 = .ok (.i2l, 1) := by decide +kernel
theorem dL_pair_11 : decode cL_pair 11 = .ok (.lastore, 1) := by decide +kernel
theorem dL_pair_12 : decode cL_pair 12 = .ok (.goto 7, 3) := by decide +kernel
theorem dL_pair_15 : decode cL_pair 15 = .ok (.astore 5, 2) := by decide +kernel
theorem dL_pair_17 : decode cL_pair 17 = .ok (.iconst 1, 1) := by decide +kernel
theorem dL_pair_18 : decode cL_pair 18 = .ok (.ireturn, 1) := by decide +kernel
theorem dL_pair_19 : decode cL_pair 19 = .ok (.iconst 0, 1) := by decide +kernel
theorem dL_pair_20 : decode cL_pair 20 = .ok (.ireturn, 1) := by decide +kernel
theorem dL_all_0 : decode cL_all 0 = .ok (.aload_n 2, 1) := by decide +kernel
theorem dL_all_1 : decode cL_all 1 = .ok (.iconst 0, 1) := by decide +kernel
theorem dL_all_2 : decode cL_all 2 = .ok (.aload_n 0, 1) := by decide +kernel
theorem dL_all_3 : decode cL_all 3 = .ok (.iload_n 1, 1) := by decide +kernel
theorem dL_all_4 : decode cL_all 4 = .ok (.invokevirtual 41, 3) := by decide +kernel
theorem dL_all_7 : decode cL_all 7 = .ok (.i2l, 1) := by decide +kernel
theorem dL_all_8 : decode cL_all 8 = .ok (.lastore, 1) := by decide +kernel
theorem dL_all_9 : decode cL_all 9 = .ok (.goto 6, 3) := by decide +kernel
theorem dL_all_12 : decode cL_all 12 = .ok (.astore_n 3, 1) := by decide +kernel
theorem dL_all_13 : decode cL_all 13 = .ok (.iconst 1, 1) := by decide +kernel
theorem dL_all_14 : decode cL_all 14 = .ok (.ireturn, 1) := by decide +kernel
theorem dL_all_15 : decode cL_all 15 = .ok (.iconst 0, 1) := by decide +kernel
theorem dL_all_16 : decode cL_all 16 = .ok (.ireturn, 1) := by decide +kernel
theorem dL_law_0 : decode cL_law 0 = .ok (.new 8, 3) := by decide +kernel
theorem dL_law_3 : decode cL_law 3 = .ok (.dup, 1) := by decide +kernel
theorem dL_law_4 : decode cL_law 4 = .ok (.invokespecial 44, 3) := by decide +kernel
theorem dL_law_7 : decode cL_law 7 = .ok (.astore_n 1, 1) := by decide +kernel
theorem dL_law_8 : decode cL_law 8 = .ok (.new 45, 3) := by decide +kernel
theorem dL_law_11 : decode cL_law 11 = .ok (.dup, 1) := by decide +kernel
theorem dL_law_12 : decode cL_law 12 = .ok (.invokespecial 47, 3) := by decide +kernel
theorem dL_law_15 : decode cL_law 15 = .ok (.astore_n 2, 1) := by decide +kernel
theorem dL_law_16 : decode cL_law 16 = .ok (.iconst 1, 1) := by decide +kernel
theorem dL_law_17 : decode cL_law 17 = .ok (.newarray .long, 2) := by decide +kernel
theorem dL_law_19 : decode cL_law 19 = .ok (.astore_n 3, 1) := by decide +kernel
theorem dL_law_20 : decode cL_law 20 = .ok (.iconst 0, 1) := by decide +kernel
theorem dL_law_21 : decode cL_law 21 = .ok (.istore 4, 2) := by decide +kernel
theorem dL_law_23 : decode cL_law 23 = .ok (.iload 4, 2) := by decide +kernel
theorem dL_law_25 : decode cL_law 25 = .ok (.aload_n 0, 1) := by decide +kernel
theorem dL_law_26 : decode cL_law 26 = .ok (.arraylength, 1) := by decide +kernel
theorem dL_law_27 : decode cL_law 27 = .ok (.iconst 5, 1) := by decide +kernel
theorem dL_law_28 : decode cL_law 28 = .ok (.isub, 1) := by decide +kernel
theorem dL_law_29 : decode cL_law 29 = .ok (.if_icmp .gt 637, 3) := by decide +kernel
theorem dL_law_32 : decode cL_law 32 = .ok (.aload_n 0, 1) := by decide +kernel
theorem dL_law_33 : decode cL_law 33 = .ok (.iload 4, 2) := by decide +kernel
theorem dL_law_35 : decode cL_law 35 = .ok (.iaload, 1) := by decide +kernel
theorem dL_law_36 : decode cL_law 36 = .ok (.bipush 15, 2) := by decide +kernel
theorem dL_law_38 : decode cL_law 38 = .ok (.iand, 1) := by decide +kernel
theorem dL_law_39 : decode cL_law 39 = .ok (.tableswitch 621 0 8 #[49, 117, 189, 261, 325, 361, 417, 485, 565], 49) := by decide +kernel
theorem dL_law_88 : decode cL_law 88 = .ok (.aload_n 1, 1) := by decide +kernel
theorem dL_law_89 : decode cL_law 89 = .ok (.aload_n 0, 1) := by decide +kernel
theorem dL_law_90 : decode cL_law 90 = .ok (.iload 4, 2) := by decide +kernel
theorem dL_law_92 : decode cL_law 92 = .ok (.iconst 1, 1) := by decide +kernel
theorem dL_law_93 : decode cL_law 93 = .ok (.iadd, 1) := by decide +kernel
theorem dL_law_94 : decode cL_law 94 = .ok (.iaload, 1) := by decide +kernel
theorem dL_law_95 : decode cL_law 95 = .ok (.aload_n 0, 1) := by decide +kernel
theorem dL_law_96 : decode cL_law 96 = .ok (.iload 4, 2) := by decide +kernel
theorem dL_law_98 : decode cL_law 98 = .ok (.iconst 2, 1) := by decide +kernel
theorem dL_law_99 : decode cL_law 99 = .ok (.iadd, 1) := by decide +kernel
theorem dL_law_100 : decode cL_law 100 = .ok (.iaload, 1) := by decide +kernel
theorem dL_law_101 : decode cL_law 101 = .ok (.aload_n 3, 1) := by decide +kernel
theorem dL_law_102 : decode cL_law 102 = .ok (.invokestatic 48, 3) := by decide +kernel
theorem dL_law_105 : decode cL_law 105 = .ok (.istore 5, 2) := by decide +kernel
theorem dL_law_107 : decode cL_law 107 = .ok (.aload_n 2, 1) := by decide +kernel
theorem dL_law_108 : decode cL_law 108 = .ok (.aload_n 0, 1) := by decide +kernel
theorem dL_law_109 : decode cL_law 109 = .ok (.iload 4, 2) := by decide +kernel
theorem dL_law_111 : decode cL_law 111 = .ok (.iconst 1, 1) := by decide +kernel
theorem dL_law_112 : decode cL_law 112 = .ok (.iadd, 1) := by decide +kernel
theorem dL_law_113 : decode cL_law 113 = .ok (.iaload, 1) := by decide +kernel
theorem dL_law_114 : decode cL_law 114 = .ok (.aload_n 0, 1) := by decide +kernel
theorem dL_law_115 : decode cL_law 115 = .ok (.iload 4, 2) := by decide +kernel
theorem dL_law_117 : decode cL_law 117 = .ok (.iconst 2, 1) := by decide +kernel
theorem dL_law_118 : decode cL_law 118 = .ok (.iadd, 1) := by decide +kernel
theorem dL_law_119 : decode cL_law 119 = .ok (.iaload, 1) := by decide +kernel
theorem dL_law_120 : decode cL_law 120 = .ok (.invokevirtual 53, 3) := by decide +kernel
theorem dL_law_123 : decode cL_law 123 = .ok (.istore 6, 2) := by decide +kernel
theorem dL_law_125 : decode cL_law 125 = .ok (.aload_n 2, 1) := by decide +kernel
theorem dL_law_126 : decode cL_law 126 = .ok (.invokevirtual 54, 3) := by decide +kernel
theorem dL_law_129 : decode cL_law 129 = .ok (.iload 5, 2) := by decide +kernel
theorem dL_law_131 : decode cL_law 131 = .ok (.if_icmp .eq 5, 3) := by decide +kernel
theorem dL_law_134 : decode cL_law 134 = .ok (.iconst 0, 1) := by decide +kernel
theorem dL_law_135 : decode cL_law 135 = .ok (.ireturn, 1) := by decide +kernel
theorem dL_law_136 : decode cL_law 136 = .ok (.iload 5, 2) := by decide +kernel
theorem dL_law_138 : decode cL_law 138 = .ok (.ifCond .ne 15, 3) := by decide +kernel
theorem dL_law_141 : decode cL_law 141 = .ok (.aload_n 3, 1) := by decide +kernel
theorem dL_law_142 : decode cL_law 142 = .ok (.iconst 0, 1) := by decide +kernel
theorem dL_law_143 : decode cL_law 143 = .ok (.laload, 1) := by decide +kernel
theorem dL_law_144 : decode cL_law 144 = .ok (.iload 6, 2) := by decide +kernel
theorem dL_law_146 : decode cL_law 146 = .ok (.i2l, 1) := by decide +kernel
theorem dL_law_147 : decode cL_law 147 = .ok (.lcmp, 1) := by decide +kernel
theorem dL_law_148 : decode cL_law 148 = .ok (.ifCond .eq 5, 3) := by decide +kernel
theorem dL_law_151 : decode cL_law 151 = .ok (.iconst 0, 1) := by decide +kernel
theorem dL_law_152 : decode cL_law 152 = .ok (.ireturn, 1) := by decide +kernel
theorem dL_law_153 : decode cL_law 153 = .ok (.goto 507, 3) := by decide +kernel
theorem dL_law_156 : decode cL_law 156 = .ok (.aload_n 1, 1) := by decide +kernel
theorem dL_law_157 : decode cL_law 157 = .ok (.aload_n 0, 1) := by decide +kernel
theorem dL_law_158 : decode cL_law 158 = .ok (.iload 4, 2) := by decide +kernel
theorem dL_law_160 : decode cL_law 160 = .ok (.iconst 1, 1) := by decide +kernel
theorem dL_law_161 : decode cL_law 161 = .ok (.iadd, 1) := by decide +kernel
theorem dL_law_162 : decode cL_law 162 = .ok (.iaload, 1) := by decide +kernel
theorem dL_law_163 : decode cL_law 163 = .ok (.aload_n 0, 1) := by decide +kernel
theorem dL_law_164 : decode cL_law 164 = .ok (.iload 4, 2) := by decide +kernel
theorem dL_law_166 : decode cL_law 166 = .ok (.iconst 2, 1) := by decide +kernel
theorem dL_law_167 : decode cL_law 167 = .ok (.iadd, 1) := by decide +kernel
theorem dL_law_168 : decode cL_law 168 = .ok (.iaload, 1) := by decide +kernel
theorem dL_law_169 : decode cL_law 169 = .ok (.aload_n 0, 1) := by decide +kernel
theorem dL_law_170 : decode cL_law 170 = .ok (.iload 4, 2) := by decide +kernel
theorem dL_law_172 : decode cL_law 172 = .ok (.iconst 3, 1) := by decide +kernel
theorem dL_law_173 : decode cL_law 173 = .ok (.iadd, 1) := by decide +kernel
theorem dL_law_174 : decode cL_law 174 = .ok (.iaload, 1) := by decide +kernel
theorem dL_law_175 : decode cL_law 175 = .ok (.aload_n 0, 1) := by decide +kernel
theorem dL_law_176 : decode cL_law 176 = .ok (.iload 4, 2) := by decide +kernel
theorem dL_law_178 : decode cL_law 178 = .ok (.iconst 4, 1) := by decide +kernel
theorem dL_law_179 : decode cL_law 179 = .ok (.iadd, 1) := by decide +kernel
theorem dL_law_180 : decode cL_law 180 = .ok (.iaload, 1) := by decide +kernel
theorem dL_law_181 : decode cL_law 181 = .ok (.invokestatic 58, 3) := by decide +kernel
theorem dL_law_184 : decode cL_law 184 = .ok (.istore 5, 2) := by decide +kernel
theorem dL_law_186 : decode cL_law 186 = .ok (.aload_n 2, 1) := by decide +kernel
theorem dL_law_187 : decode cL_law 187 = .ok (.aload_n 0, 1) := by decide +kernel
theorem dL_law_188 : decode cL_law 188 = .ok (.iload 4, 2) := by decide +kernel
theorem dL_law_190 : decode cL_law 190 = .ok (.iconst 1, 1) := by decide +kernel
theorem dL_law_191 : decode cL_law 191 = .ok (.iadd, 1) := by decide +kernel
theorem dL_law_192 : decode cL_law 192 = .ok (.iaload, 1) := by decide +kernel
theorem dL_law_193 : decode cL_law 193 = .ok (.aload_n 0, 1) := by decide +kernel
theorem dL_law_194 : decode cL_law 194 = .ok (.iload 4, 2) := by decide +kernel
theorem dL_law_196 : decode cL_law 196 = .ok (.iconst 2, 1) := by decide +kernel
theorem dL_law_197 : decode cL_law 197 = .ok (.iadd, 1) := by decide +kernel
theorem dL_law_198 : decode cL_law 198 = .ok (.iaload, 1) := by decide +kernel
theorem dL_law_199 : decode cL_law 199 = .ok (.aload_n 0, 1) := by decide +kernel
theorem dL_law_200 : decode cL_law 200 = .ok (.iload 4, 2) := by decide +kernel
theorem dL_law_202 : decode cL_law 202 = .ok (.iconst 3, 1) := by decide +kernel
theorem dL_law_203 : decode cL_law 203 = .ok (.iadd, 1) := by decide +kernel
theorem dL_law_204 : decode cL_law 204 = .ok (.iaload, 1) := by decide +kernel
theorem dL_law_205 : decode cL_law 205 = .ok (.aload_n 0, 1) := by decide +kernel
theorem dL_law_206 : decode cL_law 206 = .ok (.iload 4, 2) := by decide +kernel
theorem dL_law_208 : decode cL_law 208 = .ok (.iconst 4, 1) := by decide +kernel
theorem dL_law_209 : decode cL_law 209 = .ok (.iadd, 1) := by decide +kernel
theorem dL_law_210 : decode cL_law 210 = .ok (.iaload, 1) := by decide +kernel
theorem dL_law_211 : decode cL_law 211 = .ok (.invokevirtual 61, 3) := by decide +kernel
theorem dL_law_214 : decode cL_law 214 = .ok (.aload_n 2, 1) := by decide +kernel
theorem dL_law_215 : decode cL_law 215 = .ok (.invokevirtual 54, 3) := by decide +kernel
theorem dL_law_218 : decode cL_law 218 = .ok (.iload 5, 2) := by decide +kernel
theorem dL_law_220 : decode cL_law 220 = .ok (.if_icmp .eq 5, 3) := by decide +kernel
theorem dL_law_223 : decode cL_law 223 = .ok (.iconst 0, 1) := by decide +kernel
theorem dL_law_224 : decode cL_law 224 = .ok (.ireturn, 1) := by decide +kernel
theorem dL_law_225 : decode cL_law 225 = .ok (.goto 435, 3) := by decide +kernel
theorem dL_law_228 : decode cL_law 228 = .ok (.aload_n 1, 1) := by decide +kernel
theorem dL_law_229 : decode cL_law 229 = .ok (.aload_n 0, 1) := by decide +kernel
theorem dL_law_230 : decode cL_law 230 = .ok (.iload 4, 2) := by decide +kernel
theorem dL_law_232 : decode cL_law 232 = .ok (.iconst 1, 1) := by decide +kernel
theorem dL_law_233 : decode cL_law 233 = .ok (.iadd, 1) := by decide +kernel
theorem dL_law_234 : decode cL_law 234 = .ok (.iaload, 1) := by decide +kernel
theorem dL_law_235 : decode cL_law 235 = .ok (.aload_n 0, 1) := by decide +kernel
theorem dL_law_236 : decode cL_law 236 = .ok (.iload 4, 2) := by decide +kernel
theorem dL_law_238 : decode cL_law 238 = .ok (.iconst 2, 1) := by decide +kernel
theorem dL_law_239 : decode cL_law 239 = .ok (.iadd, 1) := by decide +kernel
theorem dL_law_240 : decode cL_law 240 = .ok (.iaload, 1) := by decide +kernel
theorem dL_law_241 : decode cL_law 241 = .ok (.aload_n 0, 1) := by decide +kernel
theorem dL_law_242 : decode cL_law 242 = .ok (.iload 4, 2) := by decide +kernel
theorem dL_law_244 : decode cL_law 244 = .ok (.iconst 3, 1) := by decide +kernel
theorem dL_law_245 : decode cL_law 245 = .ok (.iadd, 1) := by decide +kernel
theorem dL_law_246 : decode cL_law 246 = .ok (.iaload, 1) := by decide +kernel
theorem dL_law_247 : decode cL_law 247 = .ok (.aload_n 0, 1) := by decide +kernel
theorem dL_law_248 : decode cL_law 248 = .ok (.iload 4, 2) := by decide +kernel
theorem dL_law_250 : decode cL_law 250 = .ok (.iconst 4, 1) := by decide +kernel
theorem dL_law_251 : decode cL_law 251 = .ok (.iadd, 1) := by decide +kernel
theorem dL_law_252 : decode cL_law 252 = .ok (.iaload, 1) := by decide +kernel
theorem dL_law_253 : decode cL_law 253 = .ok (.invokestatic 62, 3) := by decide +kernel
theorem dL_law_256 : decode cL_law 256 = .ok (.istore 5, 2) := by decide +kernel
theorem dL_law_258 : decode cL_law 258 = .ok (.aload_n 2, 1) := by decide +kernel
theorem dL_law_259 : decode cL_law 259 = .ok (.aload_n 0, 1) := by decide +kernel
theorem dL_law_260 : decode cL_law 260 = .ok (.iload 4, 2) := by decide +kernel
theorem dL_law_262 : decode cL_law 262 = .ok (.iconst 1, 1) := by decide +kernel
theorem dL_law_263 : decode cL_law 263 = .ok (.iadd, 1) := by decide +kernel
theorem dL_law_264 : decode cL_law 264 = .ok (.iaload, 1) := by decide +kernel
theorem dL_law_265 : decode cL_law 265 = .ok (.aload_n 0, 1) := by decide +kernel
theorem dL_law_266 : decode cL_law 266 = .ok (.iload 4, 2) := by decide +kernel
theorem dL_law_268 : decode cL_law 268 = .ok (.iconst 2, 1) := by decide +kernel
theorem dL_law_269 : decode cL_law 269 = .ok (.iadd, 1) := by decide +kernel
theorem dL_law_270 : decode cL_law 270 = .ok (.iaload, 1) := by decide +kernel
theorem dL_law_271 : decode cL_law 271 = .ok (.aload_n 0, 1) := by decide +kernel
theorem dL_law_272 : decode cL_law 272 = .ok (.iload 4, 2) := by decide +kernel
theorem dL_law_274 : decode cL_law 274 = .ok (.iconst 3, 1) := by decide +kernel
theorem dL_law_275 : decode cL_law 275 = .ok (.iadd, 1) := by decide +kernel
theorem dL_law_276 : decode cL_law 276 = .ok (.iaload, 1) := by decide +kernel
theorem dL_law_277 : decode cL_law 277 = .ok (.aload_n 0, 1) := by decide +kernel
theorem dL_law_278 : decode cL_law 278 = .ok (.iload 4, 2) := by decide +kernel
theorem dL_law_280 : decode cL_law 280 = .ok (.iconst 4, 1) := by decide +kernel
theorem dL_law_281 : decode cL_law 281 = .ok (.iadd, 1) := by decide +kernel
theorem dL_law_282 : decode cL_law 282 = .ok (.iaload, 1) := by decide +kernel
theorem dL_law_283 : decode cL_law 283 = .ok (.invokevirtual 64, 3) := by decide +kernel
theorem dL_law_286 : decode cL_law 286 = .ok (.aload_n 2, 1) := by decide +kernel
theorem dL_law_287 : decode cL_law 287 = .ok (.invokevirtual 54, 3) := by decide +kernel
theorem dL_law_290 : decode cL_law 290 = .ok (.iload 5, 2) := by decide +kernel
theorem dL_law_292 : decode cL_law 292 = .ok (.if_icmp .eq 5, 3) := by decide +kernel
theorem dL_law_295 : decode cL_law 295 = .ok (.iconst 0, 1) := by decide +kernel
theorem dL_law_296 : decode cL_law 296 = .ok (.ireturn, 1) := by decide +kernel
theorem dL_law_297 : decode cL_law 297 = .ok (.goto 363, 3) := by decide +kernel
theorem dL_law_300 : decode cL_law 300 = .ok (.aload_n 1, 1) := by decide +kernel
theorem dL_law_301 : decode cL_law 301 = .ok (.aload_n 0, 1) := by decide +kernel
theorem dL_law_302 : decode cL_law 302 = .ok (.iload 4, 2) := by decide +kernel
theorem dL_law_304 : decode cL_law 304 = .ok (.iconst 1, 1) := by decide +kernel
theorem dL_law_305 : decode cL_law 305 = .ok (.iadd, 1) := by decide +kernel
theorem dL_law_306 : decode cL_law 306 = .ok (.iaload, 1) := by decide +kernel
theorem dL_law_307 : decode cL_law 307 = .ok (.aload_n 0, 1) := by decide +kernel
theorem dL_law_308 : decode cL_law 308 = .ok (.iload 4, 2) := by decide +kernel
theorem dL_law_310 : decode cL_law 310 = .ok (.iconst 2, 1) := by decide +kernel
theorem dL_law_311 : decode cL_law 311 = .ok (.iadd, 1) := by decide +kernel
theorem dL_law_312 : decode cL_law 312 = .ok (.iaload, 1) := by decide +kernel
theorem dL_law_313 : decode cL_law 313 = .ok (.ifCond .eq 7, 3) := by decide +kernel
theorem dL_law_316 : decode cL_law 316 = .ok (.iconst 1, 1) := by decide +kernel
theorem dL_law_317 : decode cL_law 317 = .ok (.goto 4, 3) := by decide +kernel
theorem dL_law_320 : decode cL_law 320 = .ok (.iconst 0, 1) := by decide +kernel
theorem dL_law_321 : decode cL_law 321 = .ok (.invokestatic 65, 3) := by decide +kernel
theorem dL_law_324 : decode cL_law 324 = .ok (.istore 5, 2) := by decide +kernel
theorem dL_law_326 : decode cL_law 326 = .ok (.aload_n 2, 1) := by decide +kernel
theorem dL_law_327 : decode cL_law 327 = .ok (.aload_n 0, 1) := by decide +kernel
theorem dL_law_328 : decode cL_law 328 = .ok (.iload 4, 2) := by decide +kernel
theorem dL_law_330 : decode cL_law 330 = .ok (.iconst 1, 1) := by decide +kernel
theorem dL_law_331 : decode cL_law 331 = .ok (.iadd, 1) := by decide +kernel
theorem dL_law_332 : decode cL_law 332 = .ok (.iaload, 1) := by decide +kernel
theorem dL_law_333 : decode cL_law 333 = .ok (.aload_n 0, 1) := by decide +kernel
theorem dL_law_334 : decode cL_law 334 = .ok (.iload 4, 2) := by decide +kernel
theorem dL_law_336 : decode cL_law 336 = .ok (.iconst 2, 1) := by decide +kernel
theorem dL_law_337 : decode cL_law 337 = .ok (.iadd, 1) := by decide +kernel
theorem dL_law_338 : decode cL_law 338 = .ok (.iaload, 1) := by decide +kernel
theorem dL_law_339 : decode cL_law 339 = .ok (.ifCond .eq 7, 3) := by decide +kernel
theorem dL_law_342 : decode cL_law 342 = .ok (.iconst 1, 1) := by decide +kernel
theorem dL_law_343 : decode cL_law 343 = .ok (.goto 4, 3) := by decide +kernel
theorem dL_law_346 : decode cL_law 346 = .ok (.iconst 0, 1) := by decide +kernel
theorem dL_law_347 : decode cL_law 347 = .ok (.invokevirtual 68, 3) := by decide +kernel
theorem dL_law_350 : decode cL_law 350 = .ok (.aload_n 2, 1) := by decide +kernel
theorem dL_law_351 : decode cL_law 351 = .ok (.invokevirtual 54, 3) := by decide +kernel
theorem dL_law_354 : decode cL_law 354 = .ok (.iload 5, 2) := by decide +kernel
theorem dL_law_356 : decode cL_law 356 = .ok (.if_icmp .eq 5, 3) := by decide +kernel
theorem dL_law_359 : decode cL_law 359 = .ok (.iconst 0, 1) := by decide +kernel
theorem dL_law_360 : decode cL_law 360 = .ok (.ireturn, 1) := by decide +kernel
theorem dL_law_361 : decode cL_law 361 = .ok (.goto 299, 3) := by decide +kernel
theorem dL_law_364 : decode cL_law 364 = .ok (.aload_n 1, 1) := by decide +kernel
theorem dL_law_365 : decode cL_law 365 = .ok (.aload_n 0, 1) := by decide +kernel
theorem dL_law_366 : decode cL_law 366 = .ok (.iload 4, 2) := by decide +kernel
theorem dL_law_368 : decode cL_law 368 = .ok (.iconst 1, 1) := by decide +kernel
theorem dL_law_369 : decode cL_law 369 = .ok (.iadd, 1) := by decide +kernel
theorem dL_law_370 : decode cL_law 370 = .ok (.iaload, 1) := by decide +kernel
theorem dL_law_371 : decode cL_law 371 = .ok (.invokestatic 69, 3) := by decide +kernel
theorem dL_law_374 : decode cL_law 374 = .ok (.istore 5, 2) := by decide +kernel
theorem dL_law_376 : decode cL_law 376 = .ok (.aload_n 2, 1) := by decide +kernel
theorem dL_law_377 : decode cL_law 377 = .ok (.aload_n 0, 1) := by decide +kernel
theorem dL_law_378 : decode cL_law 378 = .ok (.iload 4, 2) := by decide +kernel
theorem dL_law_380 : decode cL_law 380 = .ok (.iconst 1, 1) := by decide +kernel
theorem dL_law_381 : decode cL_law 381 = .ok (.iadd, 1) := by decide +kernel
theorem dL_law_382 : decode cL_law 382 = .ok (.iaload, 1) := by decide +kernel
theorem dL_law_383 : decode cL_law 383 = .ok (.invokevirtual 72, 3) := by decide +kernel
theorem dL_law_386 : decode cL_law 386 = .ok (.aload_n 2, 1) := by decide +kernel
theorem dL_law_387 : decode cL_law 387 = .ok (.invokevirtual 54, 3) := by decide +kernel
theorem dL_law_390 : decode cL_law 390 = .ok (.iload 5, 2) := by decide +kernel
theorem dL_law_392 : decode cL_law 392 = .ok (.if_icmp .eq 5, 3) := by decide +kernel
theorem dL_law_395 : decode cL_law 395 = .ok (.iconst 0, 1) := by decide +kernel
theorem dL_law_396 : decode cL_law 396 = .ok (.ireturn, 1) := by decide +kernel
theorem dL_law_397 : decode cL_law 397 = .ok (.goto 263, 3) := by decide +kernel
theorem dL_law_400 : decode cL_law 400 = .ok (.aload_n 1, 1) := by decide +kernel
theorem dL_law_401 : decode cL_law 401 = .ok (.aload_n 0, 1) := by decide +kernel
theorem dL_law_402 : decode cL_law 402 = .ok (.iload 4, 2) := by decide +kernel
theorem dL_law_404 : decode cL_law 404 = .ok (.iconst 1, 1) := by decide +kernel
theorem dL_law_405 : decode cL_law 405 = .ok (.iadd, 1) := by decide +kernel
theorem dL_law_406 : decode cL_law 406 = .ok (.iaload, 1) := by decide +kernel
theorem dL_law_407 : decode cL_law 407 = .ok (.aload_n 3, 1) := by decide +kernel
theorem dL_law_408 : decode cL_law 408 = .ok (.invokestatic 73, 3) := by decide +kernel
theorem dL_law_411 : decode cL_law 411 = .ok (.istore 5, 2) := by decide +kernel
theorem dL_law_413 : decode cL_law 413 = .ok (.aload_n 2, 1) := by decide +kernel
theorem dL_law_414 : decode cL_law 414 = .ok (.aload_n 0, 1) := by decide +kernel
theorem dL_law_415 : decode cL_law 415 = .ok (.iload 4, 2) := by decide +kernel
theorem dL_law_417 : decode cL_law 417 = .ok (.iconst 1, 1) := by decide +kernel
theorem dL_law_418 : decode cL_law 418 = .ok (.iadd, 1) := by decide +kernel
theorem dL_law_419 : decode cL_law 419 = .ok (.iaload, 1) := by decide +kernel
theorem dL_law_420 : decode cL_law 420 = .ok (.invokevirtual 76, 3) := by decide +kernel
theorem dL_law_423 : decode cL_law 423 = .ok (.istore 6, 2) := by decide +kernel
theorem dL_law_425 : decode cL_law 425 = .ok (.aload_n 2, 1) := by decide +kernel
theorem dL_law_426 : decode cL_law 426 = .ok (.invokevirtual 54, 3) := by decide +kernel
theorem dL_law_429 : decode cL_law 429 = .ok (.iload 5, 2) := by decide +kernel
theorem dL_law_431 : decode cL_law 431 = .ok (.if_icmp .eq 5, 3) := by decide +kernel
theorem dL_law_434 : decode cL_law 434 = .ok (.iconst 0, 1) := by decide +kernel
theorem dL_law_435 : decode cL_law 435 = .ok (.ireturn, 1) := by decide +kernel
theorem dL_law_436 : decode cL_law 436 = .ok (.iload 5, 2) := by decide +kernel
theorem dL_law_438 : decode cL_law 438 = .ok (.ifCond .ne 15, 3) := by decide +kernel
theorem dL_law_441 : decode cL_law 441 = .ok (.aload_n 3, 1) := by decide +kernel
theorem dL_law_442 : decode cL_law 442 = .ok (.iconst 0, 1) := by decide +kernel
theorem dL_law_443 : decode cL_law 443 = .ok (.laload, 1) := by decide +kernel
theorem dL_law_444 : decode cL_law 444 = .ok (.iload 6, 2) := by decide +kernel
theorem dL_law_446 : decode cL_law 446 = .ok (.i2l, 1) := by decide +kernel
theorem dL_law_447 : decode cL_law 447 = .ok (.lcmp, 1) := by decide +kernel
theorem dL_law_448 : decode cL_law 448 = .ok (.ifCond .eq 5, 3) := by decide +kernel
theorem dL_law_451 : decode cL_law 451 = .ok (.iconst 0, 1) := by decide +kernel
theorem dL_law_452 : decode cL_law 452 = .ok (.ireturn, 1) := by decide +kernel
theorem dL_law_453 : decode cL_law 453 = .ok (.goto 207, 3) := by decide +kernel
theorem dL_law_456 : decode cL_law 456 = .ok (.aload_n 1, 1) := by decide +kernel
theorem dL_law_457 : decode cL_law 457 = .ok (.aload_n 0, 1) := by decide +kernel
theorem dL_law_458 : decode cL_law 458 = .ok (.iload 4, 2) := by decide +kernel
theorem dL_law_460 : decode cL_law 460 = .ok (.iconst 1, 1) := by decide +kernel
theorem dL_law_461 : decode cL_law 461 = .ok (.iadd, 1) := by decide +kernel
theorem dL_law_462 : decode cL_law 462 = .ok (.iaload, 1) := by decide +kernel
theorem dL_law_463 : decode cL_law 463 = .ok (.aload_n 0, 1) := by decide +kernel
theorem dL_law_464 : decode cL_law 464 = .ok (.iload 4, 2) := by decide +kernel
theorem dL_law_466 : decode cL_law 466 = .ok (.iconst 2, 1) := by decide +kernel
theorem dL_law_467 : decode cL_law 467 = .ok (.iadd, 1) := by decide +kernel
theorem dL_law_468 : decode cL_law 468 = .ok (.iaload, 1) := by decide +kernel
theorem dL_law_469 : decode cL_law 469 = .ok (.aload_n 3, 1) := by decide +kernel
theorem dL_law_470 : decode cL_law 470 = .ok (.invokestatic 77, 3) := by decide +kernel
theorem dL_law_473 : decode cL_law 473 = .ok (.istore 5, 2) := by decide +kernel
theorem dL_law_475 : decode cL_law 475 = .ok (.aload_n 2, 1) := by decide +kernel
theorem dL_law_476 : decode cL_law 476 = .ok (.aload_n 0, 1) := by decide +kernel
theorem dL_law_477 : decode cL_law 477 = .ok (.iload 4, 2) := by decide +kernel
theorem dL_law_479 : decode cL_law 479 = .ok (.iconst 1, 1) := by decide +kernel
theorem dL_law_480 : decode cL_law 480 = .ok (.iadd, 1) := by decide +kernel
theorem dL_law_481 : decode cL_law 481 = .ok (.iaload, 1) := by decide +kernel
theorem dL_law_482 : decode cL_law 482 = .ok (.aload_n 0, 1) := by decide +kernel
theorem dL_law_483 : decode cL_law 483 = .ok (.iload 4, 2) := by decide +kernel
theorem dL_law_485 : decode cL_law 485 = .ok (.iconst 2, 1) := by decide +kernel
theorem dL_law_486 : decode cL_law 486 = .ok (.iadd, 1) := by decide +kernel
theorem dL_law_487 : decode cL_law 487 = .ok (.iaload, 1) := by decide +kernel
theorem dL_law_488 : decode cL_law 488 = .ok (.invokevirtual 79, 3) := by decide +kernel
theorem dL_law_491 : decode cL_law 491 = .ok (.istore 6, 2) := by decide +kernel
theorem dL_law_493 : decode cL_law 493 = .ok (.aload_n 2, 1) := by decide +kernel
theorem dL_law_494 : decode cL_law 494 = .ok (.invokevirtual 54, 3) := by decide +kernel
theorem dL_law_497 : decode cL_law 497 = .ok (.iload 5, 2) := by decide +kernel
theorem dL_law_499 : decode cL_law 499 = .ok (.if_icmp .eq 5, 3) := by decide +kernel
theorem dL_law_502 : decode cL_law 502 = .ok (.iconst 0, 1) := by decide +kernel
theorem dL_law_503 : decode cL_law 503 = .ok (.ireturn, 1) := by decide +kernel
theorem dL_law_504 : decode cL_law 504 = .ok (.iload 5, 2) := by decide +kernel
theorem dL_law_506 : decode cL_law 506 = .ok (.ifCond .ne 15, 3) := by decide +kernel
theorem dL_law_509 : decode cL_law 509 = .ok (.aload_n 3, 1) := by decide +kernel
theorem dL_law_510 : decode cL_law 510 = .ok (.iconst 0, 1) := by decide +kernel
theorem dL_law_511 : decode cL_law 511 = .ok (.laload, 1) := by decide +kernel
theorem dL_law_512 : decode cL_law 512 = .ok (.iload 6, 2) := by decide +kernel
theorem dL_law_514 : decode cL_law 514 = .ok (.i2l, 1) := by decide +kernel
theorem dL_law_515 : decode cL_law 515 = .ok (.lcmp, 1) := by decide +kernel
theorem dL_law_516 : decode cL_law 516 = .ok (.ifCond .eq 5, 3) := by decide +kernel
theorem dL_law_519 : decode cL_law 519 = .ok (.iconst 0, 1) := by decide +kernel
theorem dL_law_520 : decode cL_law 520 = .ok (.ireturn, 1) := by decide +kernel
theorem dL_law_521 : decode cL_law 521 = .ok (.goto 139, 3) := by decide +kernel
theorem dL_law_524 : decode cL_law 524 = .ok (.aload_n 1, 1) := by decide +kernel
theorem dL_law_525 : decode cL_law 525 = .ok (.aload_n 0, 1) := by decide +kernel
theorem dL_law_526 : decode cL_law 526 = .ok (.iload 4, 2) := by decide +kernel
theorem dL_law_528 : decode cL_law 528 = .ok (.iconst 1, 1) := by decide +kernel
theorem dL_law_529 : decode cL_law 529 = .ok (.iadd, 1) := by decide +kernel
theorem dL_law_530 : decode cL_law 530 = .ok (.iaload, 1) := by decide +kernel
theorem dL_law_531 : decode cL_law 531 = .ok (.aload_n 0, 1) := by decide +kernel
theorem dL_law_532 : decode cL_law 532 = .ok (.iload 4, 2) := by decide +kernel
theorem dL_law_534 : decode cL_law 534 = .ok (.iconst 2, 1) := by decide +kernel
theorem dL_law_535 : decode cL_law 535 = .ok (.iadd, 1) := by decide +kernel
theorem dL_law_536 : decode cL_law 536 = .ok (.iaload, 1) := by decide +kernel
theorem dL_law_537 : decode cL_law 537 = .ok (.aload_n 0, 1) := by decide +kernel
theorem dL_law_538 : decode cL_law 538 = .ok (.iload 4, 2) := by decide +kernel
theorem dL_law_540 : decode cL_law 540 = .ok (.iconst 3, 1) := by decide +kernel
theorem dL_law_541 : decode cL_law 541 = .ok (.iadd, 1) := by decide +kernel
theorem dL_law_542 : decode cL_law 542 = .ok (.iaload, 1) := by decide +kernel
theorem dL_law_543 : decode cL_law 543 = .ok (.aload_n 3, 1) := by decide +kernel
theorem dL_law_544 : decode cL_law 544 = .ok (.invokestatic 80, 3) := by decide +kernel
theorem dL_law_547 : decode cL_law 547 = .ok (.istore 5, 2) := by decide +kernel
theorem dL_law_549 : decode cL_law 549 = .ok (.aload_n 2, 1) := by decide +kernel
theorem dL_law_550 : decode cL_law 550 = .ok (.aload_n 0, 1) := by decide +kernel
theorem dL_law_551 : decode cL_law 551 = .ok (.iload 4, 2) := by decide +kernel
theorem dL_law_553 : decode cL_law 553 = .ok (.iconst 1, 1) := by decide +kernel
theorem dL_law_554 : decode cL_law 554 = .ok (.iadd, 1) := by decide +kernel
theorem dL_law_555 : decode cL_law 555 = .ok (.iaload, 1) := by decide +kernel
theorem dL_law_556 : decode cL_law 556 = .ok (.aload_n 0, 1) := by decide +kernel
theorem dL_law_557 : decode cL_law 557 = .ok (.iload 4, 2) := by decide +kernel
theorem dL_law_559 : decode cL_law 559 = .ok (.iconst 2, 1) := by decide +kernel
theorem dL_law_560 : decode cL_law 560 = .ok (.iadd, 1) := by decide +kernel
theorem dL_law_561 : decode cL_law 561 = .ok (.iaload, 1) := by decide +kernel
theorem dL_law_562 : decode cL_law 562 = .ok (.aload_n 0, 1) := by decide +kernel
theorem dL_law_563 : decode cL_law 563 = .ok (.iload 4, 2) := by decide +kernel
theorem dL_law_565 : decode cL_law 565 = .ok (.iconst 3, 1) := by decide +kernel
theorem dL_law_566 : decode cL_law 566 = .ok (.iadd, 1) := by decide +kernel
theorem dL_law_567 : decode cL_law 567 = .ok (.iaload, 1) := by decide +kernel
theorem dL_law_568 : decode cL_law 568 = .ok (.invokevirtual 83, 3) := by decide +kernel
theorem dL_law_571 : decode cL_law 571 = .ok (.istore 6, 2) := by decide +kernel
theorem dL_law_573 : decode cL_law 573 = .ok (.aload_n 2, 1) := by decide +kernel
theorem dL_law_574 : decode cL_law 574 = .ok (.invokevirtual 54, 3) := by decide +kernel
theorem dL_law_577 : decode cL_law 577 = .ok (.iload 5, 2) := by decide +kernel
theorem dL_law_579 : decode cL_law 579 = .ok (.if_icmp .eq 5, 3) := by decide +kernel
theorem dL_law_582 : decode cL_law 582 = .ok (.iconst 0, 1) := by decide +kernel
theorem dL_law_583 : decode cL_law 583 = .ok (.ireturn, 1) := by decide +kernel
theorem dL_law_584 : decode cL_law 584 = .ok (.iload 5, 2) := by decide +kernel
theorem dL_law_586 : decode cL_law 586 = .ok (.ifCond .ne 15, 3) := by decide +kernel
theorem dL_law_589 : decode cL_law 589 = .ok (.aload_n 3, 1) := by decide +kernel
theorem dL_law_590 : decode cL_law 590 = .ok (.iconst 0, 1) := by decide +kernel
theorem dL_law_591 : decode cL_law 591 = .ok (.laload, 1) := by decide +kernel
theorem dL_law_592 : decode cL_law 592 = .ok (.iload 6, 2) := by decide +kernel
theorem dL_law_594 : decode cL_law 594 = .ok (.i2l, 1) := by decide +kernel
theorem dL_law_595 : decode cL_law 595 = .ok (.lcmp, 1) := by decide +kernel
theorem dL_law_596 : decode cL_law 596 = .ok (.ifCond .eq 5, 3) := by decide +kernel
theorem dL_law_599 : decode cL_law 599 = .ok (.iconst 0, 1) := by decide +kernel
theorem dL_law_600 : decode cL_law 600 = .ok (.ireturn, 1) := by decide +kernel
theorem dL_law_601 : decode cL_law 601 = .ok (.goto 59, 3) := by decide +kernel
theorem dL_law_604 : decode cL_law 604 = .ok (.aload_n 1, 1) := by decide +kernel
theorem dL_law_605 : decode cL_law 605 = .ok (.aload_n 0, 1) := by decide +kernel
theorem dL_law_606 : decode cL_law 606 = .ok (.iload 4, 2) := by decide +kernel
theorem dL_law_608 : decode cL_law 608 = .ok (.iconst 1, 1) := by decide +kernel
theorem dL_law_609 : decode cL_law 609 = .ok (.iadd, 1) := by decide +kernel
theorem dL_law_610 : decode cL_law 610 = .ok (.iaload, 1) := by decide +kernel
theorem dL_law_611 : decode cL_law 611 = .ok (.aload_n 3, 1) := by decide +kernel
theorem dL_law_612 : decode cL_law 612 = .ok (.invokestatic 84, 3) := by decide +kernel
theorem dL_law_615 : decode cL_law 615 = .ok (.istore 5, 2) := by decide +kernel
theorem dL_law_617 : decode cL_law 617 = .ok (.aload_n 2, 1) := by decide +kernel
theorem dL_law_618 : decode cL_law 618 = .ok (.aload_n 0, 1) := by decide +kernel
theorem dL_law_619 : decode cL_law 619 = .ok (.iload 4, 2) := by decide +kernel
theorem dL_law_621 : decode cL_law 621 = .ok (.iconst 1, 1) := by decide +kernel
theorem dL_law_622 : decode cL_law 622 = .ok (.iadd, 1) := by decide +kernel
theorem dL_law_623 : decode cL_law 623 = .ok (.iaload, 1) := by decide +kernel
theorem dL_law_624 : decode cL_law 624 = .ok (.invokevirtual 86, 3) := by decide +kernel
theorem dL_law_627 : decode cL_law 627 = .ok (.istore 6, 2) := by decide +kernel
theorem dL_law_629 : decode cL_law 629 = .ok (.aload_n 2, 1) := by decide +kernel
theorem dL_law_630 : decode cL_law 630 = .ok (.invokevirtual 54, 3) := by decide +kernel
theorem dL_law_633 : decode cL_law 633 = .ok (.iload 5, 2) := by decide +kernel
theorem dL_law_635 : decode cL_law 635 = .ok (.if_icmp .eq 5, 3) := by decide +kernel
theorem dL_law_638 : decode cL_law 638 = .ok (.iconst 0, 1) := by decide +kernel
theorem dL_law_639 : decode cL_law 639 = .ok (.ireturn, 1) := by decide +kernel
theorem dL_law_640 : decode cL_law 640 = .ok (.iload 5, 2) := by decide +kernel
theorem dL_law_642 : decode cL_law 642 = .ok (.ifCond .ne 15, 3) := by decide +kernel
theorem dL_law_645 : decode cL_law 645 = .ok (.aload_n 3, 1) := by decide +kernel
theorem dL_law_646 : decode cL_law 646 = .ok (.iconst 0, 1) := by decide +kernel
theorem dL_law_647 : decode cL_law 647 = .ok (.laload, 1) := by decide +kernel
theorem dL_law_648 : decode cL_law 648 = .ok (.iload 6, 2) := by decide +kernel
theorem dL_law_650 : decode cL_law 650 = .ok (.i2l, 1) := by decide +kernel
theorem dL_law_651 : decode cL_law 651 = .ok (.lcmp, 1) := by decide +kernel
theorem dL_law_652 : decode cL_law 652 = .ok (.ifCond .eq 5, 3) := by decide +kernel
theorem dL_law_655 : decode cL_law 655 = .ok (.iconst 0, 1) := by decide +kernel
theorem dL_law_656 : decode cL_law 656 = .ok (.ireturn, 1) := by decide +kernel
theorem dL_law_657 : decode cL_law 657 = .ok (.goto 3, 3) := by decide +kernel
theorem dL_law_660 : decode cL_law 660 = .ok (.iinc 4 5, 3) := by decide +kernel
theorem dL_law_663 : decode cL_law 663 = .ok (.goto (-640), 3) := by decide +kernel
theorem dL_law_666 : decode cL_law 666 = .ok (.iconst 1, 1) := by decide +kernel
theorem dL_law_667 : decode cL_law 667 = .ok (.ireturn, 1) := by decide +kernel
