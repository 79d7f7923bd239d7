theorem dX8_oneDay_0 : decode cX8_oneDay 0 = .ok (.iconst 0, 1) := by decide +kernel
theorem dX8_oneDay_1 : decode cX8_oneDay 1 = .ok (.istore_n 1, 1) := by decide +kernel
theorem dX8_oneDay_2 : decode cX8_oneDay 2 = .ok (.iload_n 1, 1) := by decide +kernel
theorem dX8_oneDay_3 : decode cX8_oneDay 3 = .ok (.aload_n 0, 1) := by decide +kernel
theorem dX8_oneDay_4 : decode cX8_oneDay 4 = .ok (.getfield 56, 3) := by decide +kernel
theorem dX8_oneDay_7 : decode cX8_oneDay 7 = .ok (.iconst 0, 1) := by decide +kernel
theorem dX8_oneDay_8 : decode cX8_oneDay 8 = .ok (.iaload, 1) := by decide +kernel
theorem dX8_oneDay_9 : decode cX8_oneDay 9 = .ok (.if_icmp .ge 37, 3) := by decide +kernel
theorem dX8_oneDay_46 : decode cX8_oneDay 46 = .ok (.iconst 0, 1) := by decide +kernel
theorem dX8_oneDay_47 : decode cX8_oneDay 47 = .ok (.istore_n 1, 1) := by decide +kernel
theorem dX8_oneDay_48 : decode cX8_oneDay 48 = .ok (.iload_n 1, 1) := by decide +kernel
theorem dX8_oneDay_49 : decode cX8_oneDay 49 = .ok (.aload_n 0, 1) := by decide +kernel
theorem dX8_oneDay_50 : decode cX8_oneDay 50 = .ok (.getfield 56, 3) := by decide +kernel
theorem dX8_oneDay_53 : decode cX8_oneDay 53 = .ok (.iconst 0, 1) := by decide +kernel
theorem dX8_oneDay_54 : decode cX8_oneDay 54 = .ok (.iaload, 1) := by decide +kernel
theorem dX8_oneDay_55 : decode cX8_oneDay 55 = .ok (.if_icmp .ge 88, 3) := by decide +kernel
theorem dX8_oneDay_143 : decode cX8_oneDay 143 = .ok (.aload_n 0, 1) := by decide +kernel
theorem dX8_oneDay_144 : decode cX8_oneDay 144 = .ok (.getfield 46, 3) := by decide +kernel
theorem dX8_oneDay_147 : decode cX8_oneDay 147 = .ok (.iconst 0, 1) := by decide +kernel
theorem dX8_oneDay_148 : decode cX8_oneDay 148 = .ok (.dup2, 1) := by decide +kernel
theorem dX8_oneDay_149 : decode cX8_oneDay 149 = .ok (.iaload, 1) := by decide +kernel
theorem dX8_oneDay_150 : decode cX8_oneDay 150 = .ok (.iconst 1, 1) := by decide +kernel
theorem dX8_oneDay_151 : decode cX8_oneDay 151 = .ok (.iadd, 1) := by decide +kernel
theorem dX8_oneDay_152 : decode cX8_oneDay 152 = .ok (.iastore, 1) := by decide +kernel
theorem dX8_oneDay_153 : decode cX8_oneDay 153 = .ok (.return_, 1) := by decide +kernel
theorem dX8_mayGo_0 : decode cX8_mayGo 0 = .ok (.iload_n 1, 1) := by decide +kernel
theorem dX8_mayGo_1 : decode cX8_mayGo 1 = .ok (.iconst 1, 1) := by decide +kernel
theorem dX8_mayGo_2 : decode cX8_mayGo 2 = .ok (.bipush 50, 2) := by decide +kernel
theorem dX8_mayGo_4 : decode cX8_mayGo 4 = .ok (.invokestatic 140, 3) := by decide +kernel
theorem dX8_mayGo_7 : decode cX8_mayGo 7 = .ok (.ifCond .eq 21, 3) := by decide +kernel
theorem dX8_mayGo_28 : decode cX8_mayGo 28 = .ok (.iconst 0, 1) := by decide +kernel
theorem dX8_mayGo_29 : decode cX8_mayGo 29 = .ok (.ireturn, 1) := by decide +kernel
theorem dX8_mayGo_10 : decode cX8_mayGo 10 = .ok (.aload_n 0, 1) := by decide +kernel
theorem dX8_mayGo_11 : decode cX8_mayGo 11 = .ok (.getfield 46, 3) := by decide +kernel
theorem dX8_mayGo_14 : decode cX8_mayGo 14 = .ok (.iconst 0, 1) := by decide +kernel
theorem dX8_mayGo_15 : decode cX8_mayGo 15 = .ok (.iaload, 1) := by decide +kernel
theorem dX8_mayGo_16 : decode cX8_mayGo 16 = .ok (.iload_n 1, 1) := by decide +kernel
theorem dX8_mayGo_17 : decode cX8_mayGo 17 = .ok (.iadd, 1) := by decide +kernel
theorem dX8_mayGo_18 : decode cX8_mayGo 18 = .ok (.sipush 400, 3) := by decide +kernel
theorem dX8_mayGo_21 : decode cX8_mayGo 21 = .ok (.if_icmp .gt 7, 3) := by decide +kernel
theorem dX8_mayGo_24 : decode cX8_mayGo 24 = .ok (.iconst 1, 1) := by decide +kernel
theorem dX8_mayGo_25 : decode cX8_mayGo 25 = .ok (.goto 4, 3) := by decide +kernel
theorem dX8_days_0 : decode cX8_days 0 = .ok (.aload_n 0, 1) := by decide +kernel
theorem dX8_days_1 : decode cX8_days 1 = .ok (.iconst 0, 1) := by decide +kernel
theorem dX8_days_2 : decode cX8_days 2 = .ok (.putfield 126, 3) := by decide +kernel
theorem dX8_days_5 : decode cX8_days 5 = .ok (.aload_n 0, 1) := by decide +kernel
theorem dX8_days_6 : decode cX8_days 6 = .ok (.iload_n 1, 1) := by decide +kernel
theorem dX8_days_7 : decode cX8_days 7 = .ok (.invokevirtual 289, 3) := by decide +kernel
theorem dX8_days_10 : decode cX8_days 10 = .ok (.ifCond .ne 5, 3) := by decide +kernel
theorem dX8_days_15 : decode cX8_days 15 = .ok (.iconst 0, 1) := by decide +kernel
theorem dX8_days_16 : decode cX8_days 16 = .ok (.istore_n 2, 1) := by decide +kernel
theorem dX8_days_17 : decode cX8_days 17 = .ok (.iload_n 2, 1) := by decide +kernel
theorem dX8_days_18 : decode cX8_days 18 = .ok (.iload_n 1, 1) := by decide +kernel
theorem dX8_days_19 : decode cX8_days 19 = .ok (.if_icmp .ge 13, 3) := by decide +kernel
theorem dX8_days_32 : decode cX8_days 32 = .ok (.aload_n 0, 1) := by decide +kernel
theorem dX8_days_33 : decode cX8_days 33 = .ok (.getfield 46, 3) := by decide +kernel
theorem dX8_days_36 : decode cX8_days 36 = .ok (.iconst 0, 1) := by decide +kernel
theorem dX8_days_37 : decode cX8_days 37 = .ok (.iaload, 1) := by decide +kernel
theorem dX8_days_38 : decode cX8_days 38 = .ok (.ireturn, 1) := by decide +kernel
theorem dX8_days_22 : decode cX8_days 22 = .ok (.aload_n 0, 1) := by decide +kernel
theorem dX8_days_23 : decode cX8_days 23 = .ok (.invokevirtual 292, 3) := by decide +kernel
theorem dX8_days_26 : decode cX8_days 26 = .ok (.iinc 2 1, 3) := by decide +kernel
theorem dX8_days_29 : decode cX8_days 29 = .ok (.goto (-12), 3) := by decide +kernel
theorem dX8_days_13 : decode cX8_days 13 = .ok (.iconst (-1), 1) := by decide +kernel
theorem dX8_days_14 : decode cX8_days 14 = .ok (.ireturn, 1) := by decide +kernel
theorem dX8_lost_0 : decode cX8_lost 0 = .ok (.iconst 0, 1) := by decide +kernel
theorem dX8_lost_1 : decode cX8_lost 1 = .ok (.istore_n 1, 1) := by decide +kernel
theorem dX8_lost_2 : decode cX8_lost 2 = .ok (.iconst 0, 1) := by decide +kernel
theorem dX8_lost_3 : decode cX8_lost 3 = .ok (.istore_n 2, 1) := by decide +kernel
theorem dX8_lost_4 : decode cX8_lost 4 = .ok (.iload_n 2, 1) := by decide +kernel
theorem dX8_lost_5 : decode cX8_lost 5 = .ok (.aload_n 0, 1) := by decide +kernel
theorem dX8_lost_6 : decode cX8_lost 6 = .ok (.getfield 56, 3) := by decide +kernel
theorem dX8_lost_9 : decode cX8_lost 9 = .ok (.iconst 0, 1) := by decide +kernel
theorem dX8_lost_10 : decode cX8_lost 10 = .ok (.iaload, 1) := by decide +kernel
theorem dX8_lost_11 : decode cX8_lost 11 = .ok (.if_icmp .ge 27, 3) := by decide +kernel
theorem dX8_lost_38 : decode cX8_lost 38 = .ok (.iload_n 1, 1) := by decide +kernel
theorem dX8_lost_39 : decode cX8_lost 39 = .ok (.ireturn, 1) := by decide +kernel
theorem dX8_stored_0 : decode cX8_stored 0 = .ok (.iconst 0, 1) := by decide +kernel
theorem dX8_stored_1 : decode cX8_stored 1 = .ok (.istore_n 1, 1) := by decide +kernel
theorem dX8_stored_2 : decode cX8_stored 2 = .ok (.iconst 0, 1) := by decide +kernel
theorem dX8_stored_3 : decode cX8_stored 3 = .ok (.istore_n 2, 1) := by decide +kernel
theorem dX8_stored_4 : decode cX8_stored 4 = .ok (.iload_n 2, 1) := by decide +kernel
theorem dX8_stored_5 : decode cX8_stored 5 = .ok (.bipush 16, 2) := by decide +kernel
theorem dX8_stored_7 : decode cX8_stored 7 = .ok (.if_icmp .ge 18, 3) := by decide +kernel
theorem dX8_stored_25 : decode cX8_stored 25 = .ok (.iload_n 1, 1) := by decide +kernel
theorem dX8_stored_26 : decode cX8_stored 26 = .ok (.ireturn, 1) := by decide +kernel
theorem dX8_stored_10 : decode cX8_stored 10 = .ok (.iload_n 1, 1) := by decide +kernel
theorem dX8_stored_11 : decode cX8_stored 11 = .ok (.aload_n 0, 1) := by decide +kernel
theorem dX8_stored_12 : decode cX8_stored 12 = .ok (.getfield 40, 3) := by decide +kernel
theorem dX8_stored_15 : decode cX8_stored 15 = .ok (.iload_n 2, 1) := by decide +kernel
theorem dX8_stored_16 : decode cX8_stored 16 = .ok (.iaload, 1) := by decide +kernel
theorem dX8_stored_17 : decode cX8_stored 17 = .ok (.iadd, 1) := by decide +kernel
theorem dX8_stored_18 : decode cX8_stored 18 = .ok (.istore_n 1, 1) := by decide +kernel
theorem dX8_stored_19 : decode cX8_stored 19 = .ok (.iinc 2 1, 3) := by decide +kernel
theorem dX8_stored_22 : decode cX8_stored 22 = .ok (.goto (-18), 3) := by decide +kernel
theorem dX8_moveInts_0 : decode cX8_moveInts 0 = .ok (.iconst 0, 1) := by decide +kernel
theorem dX8_moveInts_1 : decode cX8_moveInts 1 = .ok (.istore 4, 2) := by decide +kernel
theorem dX8_moveInts_3 : decode cX8_moveInts 3 = .ok (.iload 4, 2) := by decide +kernel
theorem dX8_moveInts_5 : decode cX8_moveInts 5 = .ok (.iload_n 1, 1) := by decide +kernel
theorem dX8_moveInts_6 : decode cX8_moveInts 6 = .ok (.if_icmp .ge 25, 3) := by decide +kernel
theorem dX8_moveInts_31 : decode cX8_moveInts 31 = .ok (.return_, 1) := by decide +kernel
theorem dX8_moveInts_9 : decode cX8_moveInts 9 = .ok (.aload_n 0, 1) := by decide +kernel
theorem dX8_moveInts_10 : decode cX8_moveInts 10 = .ok (.iload_n 1, 1) := by decide +kernel
theorem dX8_moveInts_11 : decode cX8_moveInts 11 = .ok (.iload_n 3, 1) := by decide +kernel
theorem dX8_moveInts_12 : decode cX8_moveInts 12 = .ok (.imul, 1) := by decide +kernel
theorem dX8_moveInts_13 : decode cX8_moveInts 13 = .ok (.iload 4, 2) := by decide +kernel
theorem dX8_moveInts_15 : decode cX8_moveInts 15 = .ok (.iadd, 1) := by decide +kernel
theorem dX8_moveInts_16 : decode cX8_moveInts 16 = .ok (.aload_n 0, 1) := by decide +kernel
theorem dX8_moveInts_17 : decode cX8_moveInts 17 = .ok (.iload_n 1, 1) := by decide +kernel
theorem dX8_moveInts_18 : decode cX8_moveInts 18 = .ok (.iload_n 2, 1) := by decide +kernel
theorem dX8_moveInts_19 : decode cX8_moveInts 19 = .ok (.imul, 1) := by decide +kernel
theorem dX8_moveInts_20 : decode cX8_moveInts 20 = .ok (.iload 4, 2) := by decide +kernel
theorem dX8_moveInts_22 : decode cX8_moveInts 22 = .ok (.iadd, 1) := by decide +kernel
theorem dX8_moveInts_23 : decode cX8_moveInts 23 = .ok (.iaload, 1) := by decide +kernel
theorem dX8_moveInts_24 : decode cX8_moveInts 24 = .ok (.iastore, 1) := by decide +kernel
theorem dX8_moveInts_25 : decode cX8_moveInts 25 = .ok (.iinc 4 1, 3) := by decide +kernel
theorem dX8_moveInts_28 : decode cX8_moveInts 28 = .ok (.goto (-25), 3) := by decide +kernel
theorem dX8_copy_0 : decode cX8_copy 0 = .ok (.aload_n 0, 1) := by decide +kernel
theorem dX8_copy_1 : decode cX8_copy 1 = .ok (.getfield 25, 3) := by decide +kernel
theorem dX8_copy_4 : decode cX8_copy 4 = .ok (.iload_n 1, 1) := by decide +kernel
theorem dX8_copy_5 : decode cX8_copy 5 = .ok (.iaload, 1) := by decide +kernel
theorem dX8_copy_6 : decode cX8_copy 6 = .ok (.istore_n 3, 1) := by decide +kernel
theorem dX8_copy_7 : decode cX8_copy 7 = .ok (.iconst 0, 1) := by decide +kernel
theorem dX8_copy_8 : decode cX8_copy 8 = .ok (.istore 4, 2) := by decide +kernel
theorem dX8_copy_10 : decode cX8_copy 10 = .ok (.iload 4, 2) := by decide +kernel
theorem dX8_copy_12 : decode cX8_copy 12 = .ok (.iload_n 3, 1) := by decide +kernel
theorem dX8_copy_13 : decode cX8_copy 13 = .ok (.if_icmp .ge 61, 3) := by decide +kernel
theorem dX8_copy_74 : decode cX8_copy 74 = .ok (.iconst 0, 1) := by decide +kernel
theorem dX8_copy_75 : decode cX8_copy 75 = .ok (.istore 4, 2) := by decide +kernel
theorem dX8_copy_77 : decode cX8_copy 77 = .ok (.iload 4, 2) := by decide +kernel
theorem dX8_copy_79 : decode cX8_copy 79 = .ok (.sipush 400, 3) := by decide +kernel
theorem dX8_copy_82 : decode cX8_copy 82 = .ok (.if_icmp .ge 35, 3) := by decide +kernel
theorem dX8_copy_117 : decode cX8_copy 117 = .ok (.aload_n 0, 1) := by decide +kernel
theorem dX8_copy_118 : decode cX8_copy 118 = .ok (.getfield 25, 3) := by decide +kernel
theorem dX8_copy_121 : decode cX8_copy 121 = .ok (.iconst 1, 1) := by decide +kernel
theorem dX8_copy_122 : decode cX8_copy 122 = .ok (.iload_n 1, 1) := by decide +kernel
theorem dX8_copy_123 : decode cX8_copy 123 = .ok (.iload_n 2, 1) := by decide +kernel
theorem dX8_copy_124 : decode cX8_copy 124 = .ok (.invokestatic 129, 3) := by decide +kernel
theorem dX8_copy_127 : decode cX8_copy 127 = .ok (.aload_n 0, 1) := by decide +kernel
theorem dX8_copy_128 : decode cX8_copy 128 = .ok (.getfield 28, 3) := by decide +kernel
theorem dX8_copy_131 : decode cX8_copy 131 = .ok (.iconst 1, 1) := by decide +kernel
theorem dX8_copy_132 : decode cX8_copy 132 = .ok (.iload_n 1, 1) := by decide +kernel
theorem dX8_copy_133 : decode cX8_copy 133 = .ok (.iload_n 2, 1) := by decide +kernel
theorem dX8_copy_134 : decode cX8_copy 134 = .ok (.invokestatic 129, 3) := by decide +kernel
theorem dX8_copy_137 : decode cX8_copy 137 = .ok (.aload_n 0, 1) := by decide +kernel
theorem dX8_copy_138 : decode cX8_copy 138 = .ok (.getfield 31, 3) := by decide +kernel
theorem dX8_copy_141 : decode cX8_copy 141 = .ok (.bipush 20, 2) := by decide +kernel
theorem dX8_copy_143 : decode cX8_copy 143 = .ok (.iload_n 1, 1) := by decide +kernel
theorem dX8_copy_144 : decode cX8_copy 144 = .ok (.iload_n 2, 1) := by decide +kernel
theorem dX8_copy_145 : decode cX8_copy 145 = .ok (.invokestatic 129, 3) := by decide +kernel
theorem dX8_copy_148 : decode cX8_copy 148 = .ok (.aload_n 0, 1) := by decide +kernel
theorem dX8_copy_149 : decode cX8_copy 149 = .ok (.getfield 34, 3) := by decide +kernel
theorem dX8_copy_152 : decode cX8_copy 152 = .ok (.bipush 22, 2) := by decide +kernel
theorem dX8_copy_154 : decode cX8_copy 154 = .ok (.iload_n 1, 1) := by decide +kernel
theorem dX8_copy_155 : decode cX8_copy 155 = .ok (.iload_n 2, 1) := by decide +kernel
theorem dX8_copy_156 : decode cX8_copy 156 = .ok (.invokestatic 129, 3) := by decide +kernel
theorem dX8_copy_159 : decode cX8_copy 159 = .ok (.aload_n 0, 1) := by decide +kernel
theorem dX8_copy_160 : decode cX8_copy 160 = .ok (.getfield 37, 3) := by decide +kernel
theorem dX8_copy_163 : decode cX8_copy 163 = .ok (.bipush 22, 2) := by decide +kernel
theorem dX8_copy_165 : decode cX8_copy 165 = .ok (.iload_n 1, 1) := by decide +kernel
theorem dX8_copy_166 : decode cX8_copy 166 = .ok (.iload_n 2, 1) := by decide +kernel
theorem dX8_copy_167 : decode cX8_copy 167 = .ok (.invokestatic 129, 3) := by decide +kernel
theorem dX8_copy_170 : decode cX8_copy 170 = .ok (.aload_n 0, 1) := by decide +kernel
theorem dX8_copy_171 : decode cX8_copy 171 = .ok (.getfield 40, 3) := by decide +kernel
theorem dX8_copy_174 : decode cX8_copy 174 = .ok (.bipush 22, 2) := by decide +kernel
theorem dX8_copy_176 : decode cX8_copy 176 = .ok (.iload_n 1, 1) := by decide +kernel
theorem dX8_copy_177 : decode cX8_copy 177 = .ok (.iload_n 2, 1) := by decide +kernel
theorem dX8_copy_178 : decode cX8_copy 178 = .ok (.invokestatic 129, 3) := by decide +kernel
theorem dX8_copy_181 : decode cX8_copy 181 = .ok (.aload_n 0, 1) := by decide +kernel
theorem dX8_copy_182 : decode cX8_copy 182 = .ok (.getfield 43, 3) := by decide +kernel
theorem dX8_copy_185 : decode cX8_copy 185 = .ok (.bipush 120, 2) := by decide +kernel
theorem dX8_copy_187 : decode cX8_copy 187 = .ok (.iload_n 1, 1) := by decide +kernel
theorem dX8_copy_188 : decode cX8_copy 188 = .ok (.iload_n 2, 1) := by decide +kernel
theorem dX8_copy_189 : decode cX8_copy 189 = .ok (.invokestatic 129, 3) := by decide +kernel
theorem dX8_copy_192 : decode cX8_copy 192 = .ok (.aload_n 0, 1) := by decide +kernel
theorem dX8_copy_193 : decode cX8_copy 193 = .ok (.getfield 46, 3) := by decide +kernel
theorem dX8_copy_196 : decode cX8_copy 196 = .ok (.iconst 1, 1) := by decide +kernel
theorem dX8_copy_197 : decode cX8_copy 197 = .ok (.iload_n 1, 1) := by decide +kernel
theorem dX8_copy_198 : decode cX8_copy 198 = .ok (.iload_n 2, 1) := by decide +kernel
theorem dX8_copy_199 : decode cX8_copy 199 = .ok (.invokestatic 129, 3) := by decide +kernel
theorem dX8_copy_202 : decode cX8_copy 202 = .ok (.aload_n 0, 1) := by decide +kernel
theorem dX8_copy_203 : decode cX8_copy 203 = .ok (.getfield 53, 3) := by decide +kernel
theorem dX8_copy_206 : decode cX8_copy 206 = .ok (.bipush 16, 2) := by decide +kernel
theorem dX8_copy_208 : decode cX8_copy 208 = .ok (.iload_n 1, 1) := by decide +kernel
theorem dX8_copy_209 : decode cX8_copy 209 = .ok (.iload_n 2, 1) := by decide +kernel
theorem dX8_copy_210 : decode cX8_copy 210 = .ok (.invokestatic 129, 3) := by decide +kernel
theorem dX8_copy_213 : decode cX8_copy 213 = .ok (.aload_n 0, 1) := by decide +kernel
theorem dX8_copy_214 : decode cX8_copy 214 = .ok (.getfield 56, 3) := by decide +kernel
theorem dX8_copy_217 : decode cX8_copy 217 = .ok (.iconst 1, 1) := by decide +kernel
theorem dX8_copy_218 : decode cX8_copy 218 = .ok (.iload_n 1, 1) := by decide +kernel
theorem dX8_copy_219 : decode cX8_copy 219 = .ok (.iload_n 2, 1) := by decide +kernel
theorem dX8_copy_220 : decode cX8_copy 220 = .ok (.invokestatic 129, 3) := by decide +kernel
theorem dX8_copy_223 : decode cX8_copy 223 = .ok (.aload_n 0, 1) := by decide +kernel
theorem dX8_copy_224 : decode cX8_copy 224 = .ok (.getfield 59, 3) := by decide +kernel
theorem dX8_copy_227 : decode cX8_copy 227 = .ok (.bipush 6, 2) := by decide +kernel
theorem dX8_copy_229 : decode cX8_copy 229 = .ok (.iload_n 1, 1) := by decide +kernel
theorem dX8_copy_230 : decode cX8_copy 230 = .ok (.iload_n 2, 1) := by decide +kernel
theorem dX8_copy_231 : decode cX8_copy 231 = .ok (.invokestatic 129, 3) := by decide +kernel
theorem dX8_copy_234 : decode cX8_copy 234 = .ok (.aload_n 0, 1) := by decide +kernel
theorem dX8_copy_235 : decode cX8_copy 235 = .ok (.getfield 62, 3) := by decide +kernel
theorem dX8_copy_238 : decode cX8_copy 238 = .ok (.bipush 6, 2) := by decide +kernel
theorem dX8_copy_240 : decode cX8_copy 240 = .ok (.iload_n 1, 1) := by decide +kernel
theorem dX8_copy_241 : decode cX8_copy 241 = .ok (.iload_n 2, 1) := by decide +kernel
theorem dX8_copy_242 : decode cX8_copy 242 = .ok (.invokestatic 129, 3) := by decide +kernel
theorem dX8_copy_245 : decode cX8_copy 245 = .ok (.aload_n 0, 1) := by decide +kernel
theorem dX8_copy_246 : decode cX8_copy 246 = .ok (.getfield 65, 3) := by decide +kernel
theorem dX8_copy_249 : decode cX8_copy 249 = .ok (.bipush 6, 2) := by decide +kernel
theorem dX8_copy_251 : decode cX8_copy 251 = .ok (.iload_n 1, 1) := by decide +kernel
theorem dX8_copy_252 : decode cX8_copy 252 = .ok (.iload_n 2, 1) := by decide +kernel
theorem dX8_copy_253 : decode cX8_copy 253 = .ok (.invokestatic 129, 3) := by decide +kernel
theorem dX8_copy_256 : decode cX8_copy 256 = .ok (.aload_n 0, 1) := by decide +kernel
theorem dX8_copy_257 : decode cX8_copy 257 = .ok (.getfield 68, 3) := by decide +kernel
theorem dX8_copy_260 : decode cX8_copy 260 = .ok (.bipush 6, 2) := by decide +kernel
theorem dX8_copy_262 : decode cX8_copy 262 = .ok (.iload_n 1, 1) := by decide +kernel
theorem dX8_copy_263 : decode cX8_copy 263 = .ok (.iload_n 2, 1) := by decide +kernel
theorem dX8_copy_264 : decode cX8_copy 264 = .ok (.invokestatic 129, 3) := by decide +kernel
theorem dX8_copy_267 : decode cX8_copy 267 = .ok (.aload_n 0, 1) := by decide +kernel
theorem dX8_copy_268 : decode cX8_copy 268 = .ok (.getfield 71, 3) := by decide +kernel
theorem dX8_copy_271 : decode cX8_copy 271 = .ok (.bipush 6, 2) := by decide +kernel
theorem dX8_copy_273 : decode cX8_copy 273 = .ok (.iload_n 1, 1) := by decide +kernel
theorem dX8_copy_274 : decode cX8_copy 274 = .ok (.iload_n 2, 1) := by decide +kernel
theorem dX8_copy_275 : decode cX8_copy 275 = .ok (.invokestatic 129, 3) := by decide +kernel
theorem dX8_copy_278 : decode cX8_copy 278 = .ok (.aload_n 0, 1) := by decide +kernel
theorem dX8_copy_279 : decode cX8_copy 279 = .ok (.getfield 74, 3) := by decide +kernel
theorem dX8_copy_282 : decode cX8_copy 282 = .ok (.bipush 6, 2) := by decide +kernel
theorem dX8_copy_284 : decode cX8_copy 284 = .ok (.iload_n 1, 1) := by decide +kernel
theorem dX8_copy_285 : decode cX8_copy 285 = .ok (.iload_n 2, 1) := by decide +kernel
theorem dX8_copy_286 : decode cX8_copy 286 = .ok (.invokestatic 129, 3) := by decide +kernel
theorem dX8_copy_289 : decode cX8_copy 289 = .ok (.aload_n 0, 1) := by decide +kernel
theorem dX8_copy_290 : decode cX8_copy 290 = .ok (.getfield 77, 3) := by decide +kernel
theorem dX8_copy_293 : decode cX8_copy 293 = .ok (.bipush 6, 2) := by decide +kernel
theorem dX8_copy_295 : decode cX8_copy 295 = .ok (.iload_n 1, 1) := by decide +kernel
theorem dX8_copy_296 : decode cX8_copy 296 = .ok (.iload_n 2, 1) := by decide +kernel
theorem dX8_copy_297 : decode cX8_copy 297 = .ok (.invokestatic 129, 3) := by decide +kernel
theorem dX8_copy_300 : decode cX8_copy 300 = .ok (.aload_n 0, 1) := by decide +kernel
theorem dX8_copy_301 : decode cX8_copy 301 = .ok (.getfield 80, 3) := by decide +kernel
theorem dX8_copy_304 : decode cX8_copy 304 = .ok (.bipush 6, 2) := by decide +kernel
theorem dX8_copy_306 : decode cX8_copy 306 = .ok (.iload_n 1, 1) := by decide +kernel
theorem dX8_copy_307 : decode cX8_copy 307 = .ok (.iload_n 2, 1) := by decide +kernel
theorem dX8_copy_308 : decode cX8_copy 308 = .ok (.invokestatic 129, 3) := by decide +kernel
theorem dX8_copy_311 : decode cX8_copy 311 = .ok (.aload_n 0, 1) := by decide +kernel
theorem dX8_copy_312 : decode cX8_copy 312 = .ok (.getfield 83, 3) := by decide +kernel
theorem dX8_copy_315 : decode cX8_copy 315 = .ok (.sipush 156, 3) := by decide +kernel
theorem dX8_copy_318 : decode cX8_copy 318 = .ok (.iload_n 1, 1) := by decide +kernel
theorem dX8_copy_319 : decode cX8_copy 319 = .ok (.iload_n 2, 1) := by decide +kernel
theorem dX8_copy_320 : decode cX8_copy 320 = .ok (.invokestatic 129, 3) := by decide +kernel
theorem dX8_copy_323 : decode cX8_copy 323 = .ok (.aload_n 0, 1) := by decide +kernel
theorem dX8_copy_324 : decode cX8_copy 324 = .ok (.getfield 92, 3) := by decide +kernel
theorem dX8_copy_327 : decode cX8_copy 327 = .ok (.iconst 1, 1) := by decide +kernel
theorem dX8_copy_328 : decode cX8_copy 328 = .ok (.iload_n 1, 1) := by decide +kernel
theorem dX8_copy_329 : decode cX8_copy 329 = .ok (.iload_n 2, 1) := by decide +kernel
theorem dX8_copy_330 : decode cX8_copy 330 = .ok (.invokestatic 129, 3) := by decide +kernel
theorem dX8_copy_333 : decode cX8_copy 333 = .ok (.aload_n 0, 1) := by decide +kernel
theorem dX8_copy_334 : decode cX8_copy 334 = .ok (.getfield 95, 3) := by decide +kernel
theorem dX8_copy_337 : decode cX8_copy 337 = .ok (.sipush 3600, 3) := by decide +kernel
theorem dX8_copy_340 : decode cX8_copy 340 = .ok (.iload_n 1, 1) := by decide +kernel
theorem dX8_copy_341 : decode cX8_copy 341 = .ok (.iload_n 2, 1) := by decide +kernel
theorem dX8_copy_342 : decode cX8_copy 342 = .ok (.invokestatic 129, 3) := by decide +kernel
theorem dX8_copy_345 : decode cX8_copy 345 = .ok (.iconst 0, 1) := by decide +kernel
theorem dX8_copy_346 : decode cX8_copy 346 = .ok (.istore 4, 2) := by decide +kernel
theorem dX8_copy_348 : decode cX8_copy 348 = .ok (.iload 4, 2) := by decide +kernel
theorem dX8_copy_350 : decode cX8_copy 350 = .ok (.sipush 5400, 3) := by decide +kernel
theorem dX8_copy_353 : decode cX8_copy 353 = .ok (.if_icmp .ge 61, 3) := by decide +kernel
theorem dX8_copy_414 : decode cX8_copy 414 = .ok (.return_, 1) := by decide +kernel
theorem dX8_copy_356 : decode cX8_copy 356 = .ok (.aload_n 0, 1) := by decide +kernel
theorem dX8_copy_357 : decode cX8_copy 357 = .ok (.getfield 86, 3) := by decide +kernel
theorem dX8_copy_360 : decode cX8_copy 360 = .ok (.sipush 5400, 3) := by decide +kernel
theorem dX8_copy_363 : decode cX8_copy 363 = .ok (.iload_n 2, 1) := by decide +kernel
theorem dX8_copy_364 : decode cX8_copy 364 = .ok (.imul, 1) := by decide +kernel
theorem dX8_copy_365 : decode cX8_copy 365 = .ok (.iload 4, 2) := by decide +kernel
theorem dX8_copy_367 : decode cX8_copy 367 = .ok (.iadd, 1) := by decide +kernel
theorem dX8_copy_368 : decode cX8_copy 368 = .ok (.aload_n 0, 1) := by decide +kernel
theorem dX8_copy_369 : decode cX8_copy 369 = .ok (.getfield 86, 3) := by decide +kernel
theorem dX8_copy_372 : decode cX8_copy 372 = .ok (.sipush 5400, 3) := by decide +kernel
theorem dX8_copy_375 : decode cX8_copy 375 = .ok (.iload_n 1, 1) := by decide +kernel
theorem dX8_copy_376 : decode cX8_copy 376 = .ok (.imul, 1) := by decide +kernel
theorem dX8_copy_377 : decode cX8_copy 377 = .ok (.iload 4, 2) := by decide +kernel
theorem dX8_copy_379 : decode cX8_copy 379 = .ok (.iadd, 1) := by decide +kernel
theorem dX8_copy_380 : decode cX8_copy 380 = .ok (.baload, 1) := by decide +kernel
theorem dX8_copy_381 : decode cX8_copy 381 = .ok (.bastore, 1) := by decide +kernel
theorem dX8_copy_382 : decode cX8_copy 382 = .ok (.aload_n 0, 1) := by decide +kernel
theorem dX8_copy_383 : decode cX8_copy 383 = .ok (.getfield 89, 3) := by decide +kernel
theorem dX8_copy_386 : decode cX8_copy 386 = .ok (.sipush 5400, 3) := by decide +kernel
theorem dX8_copy_389 : decode cX8_copy 389 = .ok (.iload_n 2, 1) := by decide +kernel
theorem dX8_copy_390 : decode cX8_copy 390 = .ok (.imul, 1) := by decide +kernel
theorem dX8_copy_391 : decode cX8_copy 391 = .ok (.iload 4, 2) := by decide +kernel
theorem dX8_copy_393 : decode cX8_copy 393 = .ok (.iadd, 1) := by decide +kernel
theorem dX8_copy_394 : decode cX8_copy 394 = .ok (.aload_n 0, 1) := by decide +kernel
theorem dX8_copy_395 : decode cX8_copy 395 = .ok (.getfield 89, 3) := by decide +kernel
theorem dX8_copy_398 : decode cX8_copy 398 = .ok (.sipush 5400, 3) := by decide +kernel
theorem dX8_copy_401 : decode cX8_copy 401 = .ok (.iload_n 1, 1) := by decide +kernel
theorem dX8_copy_402 : decode cX8_copy 402 = .ok (.imul, 1) := by decide +kernel
theorem dX8_copy_403 : decode cX8_copy 403 = .ok (.iload 4, 2) := by decide +kernel
theorem dX8_copy_405 : decode cX8_copy 405 = .ok (.iadd, 1) := by decide +kernel
theorem dX8_copy_406 : decode cX8_copy 406 = .ok (.iaload, 1) := by decide +kernel
theorem dX8_copy_407 : decode cX8_copy 407 = .ok (.iastore, 1) := by decide +kernel
theorem dX8_copy_408 : decode cX8_copy 408 = .ok (.iinc 4 1, 3) := by decide +kernel
theorem dX8_copy_411 : decode cX8_copy 411 = .ok (.goto (-63), 3) := by decide +kernel
theorem dX8_copy_85 : decode cX8_copy 85 = .ok (.aload_n 0, 1) := by decide +kernel
theorem dX8_copy_86 : decode cX8_copy 86 = .ok (.getfield 49, 3) := by decide +kernel
theorem dX8_copy_89 : decode cX8_copy 89 = .ok (.sipush 400, 3) := by decide +kernel
theorem dX8_copy_92 : decode cX8_copy 92 = .ok (.iload_n 2, 1) := by decide +kernel
theorem dX8_copy_93 : decode cX8_copy 93 = .ok (.imul, 1) := by decide +kernel
theorem dX8_copy_94 : decode cX8_copy 94 = .ok (.iload 4, 2) := by decide +kernel
theorem dX8_copy_96 : decode cX8_copy 96 = .ok (.iadd, 1) := by decide +kernel
theorem dX8_copy_97 : decode cX8_copy 97 = .ok (.aload_n 0, 1) := by decide +kernel
theorem dX8_copy_98 : decode cX8_copy 98 = .ok (.getfield 49, 3) := by decide +kernel
theorem dX8_copy_101 : decode cX8_copy 101 = .ok (.sipush 400, 3) := by decide +kernel
theorem dX8_copy_104 : decode cX8_copy 104 = .ok (.iload_n 1, 1) := by decide +kernel
theorem dX8_copy_105 : decode cX8_copy 105 = .ok (.imul, 1) := by decide +kernel
theorem dX8_copy_106 : decode cX8_copy 106 = .ok (.iload 4, 2) := by decide +kernel
theorem dX8_copy_108 : decode cX8_copy 108 = .ok (.iadd, 1) := by decide +kernel
theorem dX8_copy_109 : decode cX8_copy 109 = .ok (.baload, 1) := by decide +kernel
theorem dX8_copy_110 : decode cX8_copy 110 = .ok (.bastore, 1) := by decide +kernel
theorem dX8_copy_111 : decode cX8_copy 111 = .ok (.iinc 4 1, 3) := by decide +kernel
theorem dX8_copy_114 : decode cX8_copy 114 = .ok (.goto (-37), 3) := by decide +kernel
theorem dX8_tell_0 : decode cX8_tell 0 = .ok (.aload_n 0, 1) := by decide +kernel
theorem dX8_tell_1 : decode cX8_tell 1 = .ok (.iconst 0, 1) := by decide +kernel
theorem dX8_tell_2 : decode cX8_tell 2 = .ok (.putfield 126, 3) := by decide +kernel
theorem dX8_tell_5 : decode cX8_tell 5 = .ok (.iload_n 1, 1) := by decide +kernel
theorem dX8_tell_6 : decode cX8_tell 6 = .ok (.iconst 0, 1) := by decide +kernel
theorem dX8_tell_7 : decode cX8_tell 7 = .ok (.aload_n 0, 1) := by decide +kernel
theorem dX8_tell_8 : decode cX8_tell 8 = .ok (.getfield 56, 3) := by decide +kernel
theorem dX8_tell_11 : decode cX8_tell 11 = .ok (.iconst 0, 1) := by decide +kernel
theorem dX8_tell_12 : decode cX8_tell 12 = .ok (.iaload, 1) := by decide +kernel
theorem dX8_tell_13 : decode cX8_tell 13 = .ok (.iconst 1, 1) := by decide +kernel
theorem dX8_tell_14 : decode cX8_tell 14 = .ok (.isub, 1) := by decide +kernel
theorem dX8_tell_15 : decode cX8_tell 15 = .ok (.invokestatic 140, 3) := by decide +kernel
theorem dX8_tell_18 : decode cX8_tell 18 = .ok (.ifCond .ne 5, 3) := by decide +kernel
theorem dX8_tell_21 : decode cX8_tell 21 = .ok (.iconst (-1), 1) := by decide +kernel
theorem dX8_tell_22 : decode cX8_tell 22 = .ok (.ireturn, 1) := by decide +kernel
theorem dX8_camp_0 : decode cX8_camp 0 = .ok (.aload_n 0, 1) := by decide +kernel
theorem dX8_camp_1 : decode cX8_camp 1 = .ok (.iconst 0, 1) := by decide +kernel
theorem dX8_camp_2 : decode cX8_camp 2 = .ok (.putfield 126, 3) := by decide +kernel
theorem dX8_camp_5 : decode cX8_camp 5 = .ok (.iload_n 1, 1) := by decide +kernel
theorem dX8_camp_6 : decode cX8_camp 6 = .ok (.iconst 0, 1) := by decide +kernel
theorem dX8_camp_7 : decode cX8_camp 7 = .ok (.bipush 15, 2) := by decide +kernel
theorem dX8_camp_9 : decode cX8_camp 9 = .ok (.invokestatic 140, 3) := by decide +kernel
theorem dX8_camp_12 : decode cX8_camp 12 = .ok (.ifCond .ne 5, 3) := by decide +kernel
theorem dX8_camp_17 : decode cX8_camp 17 = .ok (.iload_n 2, 1) := by decide +kernel
theorem dX8_camp_18 : decode cX8_camp 18 = .ok (.tableswitch 123 0 3 #[30, 37, 44, 98], 30) := by decide +kernel
theorem dX8_camp_141 : decode cX8_camp 141 = .ok (.iconst (-1), 1) := by decide +kernel
theorem dX8_camp_142 : decode cX8_camp 142 = .ok (.ireturn, 1) := by decide +kernel
theorem dX8_camp_48 : decode cX8_camp 48 = .ok (.aload_n 0, 1) := by decide +kernel
theorem dX8_camp_49 : decode cX8_camp 49 = .ok (.getfield 40, 3) := by decide +kernel
theorem dX8_camp_52 : decode cX8_camp 52 = .ok (.iload_n 1, 1) := by decide +kernel
theorem dX8_camp_53 : decode cX8_camp 53 = .ok (.iaload, 1) := by decide +kernel
theorem dX8_camp_54 : decode cX8_camp 54 = .ok (.ireturn, 1) := by decide +kernel
theorem dX8_camp_55 : decode cX8_camp 55 = .ok (.aload_n 0, 1) := by decide +kernel
theorem dX8_camp_56 : decode cX8_camp 56 = .ok (.getfield 53, 3) := by decide +kernel
theorem dX8_camp_59 : decode cX8_camp 59 = .ok (.iload_n 1, 1) := by decide +kernel
theorem dX8_camp_60 : decode cX8_camp 60 = .ok (.iaload, 1) := by decide +kernel
theorem dX8_camp_61 : decode cX8_camp 61 = .ok (.ireturn, 1) := by decide +kernel
theorem dX8_camp_62 : decode cX8_camp 62 = .ok (.iconst 0, 1) := by decide +kernel
theorem dX8_camp_63 : decode cX8_camp 63 = .ok (.istore_n 3, 1) := by decide +kernel
theorem dX8_camp_64 : decode cX8_camp 64 = .ok (.iconst 0, 1) := by decide +kernel
theorem dX8_camp_65 : decode cX8_camp 65 = .ok (.istore 4, 2) := by decide +kernel
theorem dX8_camp_67 : decode cX8_camp 67 = .ok (.iload 4, 2) := by decide +kernel
theorem dX8_camp_69 : decode cX8_camp 69 = .ok (.aload_n 0, 1) := by decide +kernel
theorem dX8_camp_70 : decode cX8_camp 70 = .ok (.getfield 56, 3) := by decide +kernel
theorem dX8_camp_73 : decode cX8_camp 73 = .ok (.iconst 0, 1) := by decide +kernel
theorem dX8_camp_74 : decode cX8_camp 74 = .ok (.iaload, 1) := by decide +kernel
theorem dX8_camp_75 : decode cX8_camp 75 = .ok (.if_icmp .ge 39, 3) := by decide +kernel
theorem dX8_camp_114 : decode cX8_camp 114 = .ok (.iload_n 3, 1) := by decide +kernel
theorem dX8_camp_115 : decode cX8_camp 115 = .ok (.ireturn, 1) := by decide +kernel
theorem dX8_camp_116 : decode cX8_camp 116 = .ok (.aload_n 0, 1) := by decide +kernel
theorem dX8_camp_117 : decode cX8_camp 117 = .ok (.getfield 40, 3) := by decide +kernel
theorem dX8_camp_120 : decode cX8_camp 120 = .ok (.iload_n 1, 1) := by decide +kernel
theorem dX8_camp_121 : decode cX8_camp 121 = .ok (.iaload, 1) := by decide +kernel
theorem dX8_camp_122 : decode cX8_camp 122 = .ok (.ifCond .ne 7, 3) := by decide +kernel
theorem dX8_camp_125 : decode cX8_camp 125 = .ok (.iconst (-1), 1) := by decide +kernel
theorem dX8_camp_126 : decode cX8_camp 126 = .ok (.goto 14, 3) := by decide +kernel
theorem dX8_camp_140 : decode cX8_camp 140 = .ok (.ireturn, 1) := by decide +kernel
theorem dX8_camp_15 : decode cX8_camp 15 = .ok (.iconst (-1), 1) := by decide +kernel
theorem dX8_camp_16 : decode cX8_camp 16 = .ok (.ireturn, 1) := by decide +kernel
theorem dX8_lot_0 : decode cX8_lot 0 = .ok (.aload_n 0, 1) := by decide +kernel
theorem dX8_lot_1 : decode cX8_lot 1 = .ok (.iconst 0, 1) := by decide +kernel
theorem dX8_lot_2 : decode cX8_lot 2 = .ok (.putfield 126, 3) := by decide +kernel
theorem dX8_lot_5 : decode cX8_lot 5 = .ok (.iload_n 1, 1) := by decide +kernel
theorem dX8_lot_6 : decode cX8_lot 6 = .ok (.iconst 0, 1) := by decide +kernel
theorem dX8_lot_7 : decode cX8_lot 7 = .ok (.aload_n 0, 1) := by decide +kernel
theorem dX8_lot_8 : decode cX8_lot 8 = .ok (.getfield 28, 3) := by decide +kernel
theorem dX8_lot_11 : decode cX8_lot 11 = .ok (.iconst 0, 1) := by decide +kernel
theorem dX8_lot_12 : decode cX8_lot 12 = .ok (.iaload, 1) := by decide +kernel
theorem dX8_lot_13 : decode cX8_lot 13 = .ok (.iconst 1, 1) := by decide +kernel
theorem dX8_lot_14 : decode cX8_lot 14 = .ok (.isub, 1) := by decide +kernel
theorem dX8_lot_15 : decode cX8_lot 15 = .ok (.invokestatic 140, 3) := by decide +kernel
theorem dX8_lot_18 : decode cX8_lot 18 = .ok (.ifCond .ne 5, 3) := by decide +kernel
theorem dX8_lot_21 : decode cX8_lot 21 = .ok (.iconst (-1), 1) := by decide +kernel
theorem dX8_lot_22 : decode cX8_lot 22 = .ok (.ireturn, 1) := by decide +kernel
theorem dX8_line_0 : decode cX8_line 0 = .ok (.aload_n 0, 1) := by decide +kernel
theorem dX8_line_1 : decode cX8_line 1 = .ok (.iconst 0, 1) := by decide +kernel
theorem dX8_line_2 : decode cX8_line 2 = .ok (.putfield 126, 3) := by decide +kernel
theorem dX8_line_5 : decode cX8_line 5 = .ok (.iload_n 1, 1) := by decide +kernel
theorem dX8_line_6 : decode cX8_line 6 = .ok (.iconst 0, 1) := by decide +kernel
theorem dX8_line_7 : decode cX8_line 7 = .ok (.sipush 599, 3) := by decide +kernel
theorem dX8_line_10 : decode cX8_line 10 = .ok (.invokestatic 140, 3) := by decide +kernel
theorem dX8_line_13 : decode cX8_line 13 = .ok (.ifCond .eq 36, 3) := by decide +kernel
theorem dX8_line_49 : decode cX8_line 49 = .ok (.iconst (-1), 1) := by decide +kernel
theorem dX8_line_50 : decode cX8_line 50 = .ok (.ireturn, 1) := by decide +kernel
theorem dX8_line_16 : decode cX8_line 16 = .ok (.iload_n 1, 1) := by decide +kernel
theorem dX8_line_17 : decode cX8_line 17 = .ok (.aload_n 0, 1) := by decide +kernel
theorem dX8_line_18 : decode cX8_line 18 = .ok (.getfield 92, 3) := by decide +kernel
theorem dX8_line_21 : decode cX8_line 21 = .ok (.iconst 0, 1) := by decide +kernel
theorem dX8_line_22 : decode cX8_line 22 = .ok (.iaload, 1) := by decide +kernel
theorem dX8_line_23 : decode cX8_line 23 = .ok (.if_icmp .ge 26, 3) := by decide +kernel
theorem dX8_count_0 : decode cX8_count 0 = .ok (.aload_n 0, 1) := by decide +kernel
theorem dX8_count_1 : decode cX8_count 1 = .ok (.iconst 0, 1) := by decide +kernel
theorem dX8_count_2 : decode cX8_count 2 = .ok (.putfield 126, 3) := by decide +kernel
theorem dX8_count_5 : decode cX8_count 5 = .ok (.iload_n 1, 1) := by decide +kernel
theorem dX8_count_6 : decode cX8_count 6 = .ok (.tableswitch 152 0 8 #[50, 57, 64, 71, 78, 85, 112, 117, 147], 50) := by decide +kernel
theorem dX8_count_158 : decode cX8_count 158 = .ok (.iconst (-1), 1) := by decide +kernel
theorem dX8_count_159 : decode cX8_count 159 = .ok (.ireturn, 1) := by decide +kernel
theorem dX8_count_56 : decode cX8_count 56 = .ok (.aload_n 0, 1) := by decide +kernel
theorem dX8_count_57 : decode cX8_count 57 = .ok (.getfield 46, 3) := by decide +kernel
theorem dX8_count_60 : decode cX8_count 60 = .ok (.iconst 0, 1) := by decide +kernel
theorem dX8_count_61 : decode cX8_count 61 = .ok (.iaload, 1) := by decide +kernel
theorem dX8_count_62 : decode cX8_count 62 = .ok (.ireturn, 1) := by decide +kernel
theorem dX8_count_63 : decode cX8_count 63 = .ok (.aload_n 0, 1) := by decide +kernel
theorem dX8_count_64 : decode cX8_count 64 = .ok (.getfield 56, 3) := by decide +kernel
theorem dX8_count_67 : decode cX8_count 67 = .ok (.iconst 0, 1) := by decide +kernel
theorem dX8_count_68 : decode cX8_count 68 = .ok (.iaload, 1) := by decide +kernel
theorem dX8_count_69 : decode cX8_count 69 = .ok (.ireturn, 1) := by decide +kernel
theorem dX8_count_70 : decode cX8_count 70 = .ok (.aload_n 0, 1) := by decide +kernel
theorem dX8_count_71 : decode cX8_count 71 = .ok (.getfield 28, 3) := by decide +kernel
theorem dX8_count_74 : decode cX8_count 74 = .ok (.iconst 0, 1) := by decide +kernel
theorem dX8_count_75 : decode cX8_count 75 = .ok (.iaload, 1) := by decide +kernel
theorem dX8_count_76 : decode cX8_count 76 = .ok (.ireturn, 1) := by decide +kernel
theorem dX8_count_77 : decode cX8_count 77 = .ok (.aload_n 0, 1) := by decide +kernel
theorem dX8_count_78 : decode cX8_count 78 = .ok (.getfield 92, 3) := by decide +kernel
theorem dX8_count_81 : decode cX8_count 81 = .ok (.iconst 0, 1) := by decide +kernel
theorem dX8_count_82 : decode cX8_count 82 = .ok (.iaload, 1) := by decide +kernel
theorem dX8_count_83 : decode cX8_count 83 = .ok (.ireturn, 1) := by decide +kernel
theorem dX8_count_84 : decode cX8_count 84 = .ok (.aload_n 0, 1) := by decide +kernel
theorem dX8_count_85 : decode cX8_count 85 = .ok (.getfield 25, 3) := by decide +kernel
theorem dX8_count_88 : decode cX8_count 88 = .ok (.iconst 0, 1) := by decide +kernel
theorem dX8_count_89 : decode cX8_count 89 = .ok (.iaload, 1) := by decide +kernel
theorem dX8_count_90 : decode cX8_count 90 = .ok (.ireturn, 1) := by decide +kernel
theorem dX8_count_91 : decode cX8_count 91 = .ok (.iconst 0, 1) := by decide +kernel
theorem dX8_count_92 : decode cX8_count 92 = .ok (.istore_n 2, 1) := by decide +kernel
theorem dX8_count_93 : decode cX8_count 93 = .ok (.iconst 0, 1) := by decide +kernel
theorem dX8_count_94 : decode cX8_count 94 = .ok (.istore_n 3, 1) := by decide +kernel
theorem dX8_count_95 : decode cX8_count 95 = .ok (.iload_n 3, 1) := by decide +kernel
theorem dX8_count_96 : decode cX8_count 96 = .ok (.bipush 120, 2) := by decide +kernel
theorem dX8_count_98 : decode cX8_count 98 = .ok (.if_icmp .ge 18, 3) := by decide +kernel
theorem dX8_count_116 : decode cX8_count 116 = .ok (.iload_n 2, 1) := by decide +kernel
theorem dX8_count_117 : decode cX8_count 117 = .ok (.ireturn, 1) := by decide +kernel
theorem dX8_count_101 : decode cX8_count 101 = .ok (.iload_n 2, 1) := by decide +kernel
theorem dX8_count_102 : decode cX8_count 102 = .ok (.aload_n 0, 1) := by decide +kernel
theorem dX8_count_103 : decode cX8_count 103 = .ok (.getfield 43, 3) := by decide +kernel
theorem dX8_count_106 : decode cX8_count 106 = .ok (.iload_n 3, 1) := by decide +kernel
theorem dX8_count_107 : decode cX8_count 107 = .ok (.iaload, 1) := by decide +kernel
theorem dX8_count_108 : decode cX8_count 108 = .ok (.iadd, 1) := by decide +kernel
theorem dX8_count_109 : decode cX8_count 109 = .ok (.istore_n 2, 1) := by decide +kernel
theorem dX8_count_110 : decode cX8_count 110 = .ok (.iinc 3 1, 3) := by decide +kernel
theorem dX8_count_113 : decode cX8_count 113 = .ok (.goto (-18), 3) := by decide +kernel
theorem dX8_count_118 : decode cX8_count 118 = .ok (.aload_n 0, 1) := by decide +kernel
theorem dX8_count_119 : decode cX8_count 119 = .ok (.invokevirtual 301, 3) := by decide +kernel
theorem dX8_count_122 : decode cX8_count 122 = .ok (.ireturn, 1) := by decide +kernel
theorem dX8_count_123 : decode cX8_count 123 = .ok (.iconst 0, 1) := by decide +kernel
theorem dX8_count_124 : decode cX8_count 124 = .ok (.istore_n 2, 1) := by decide +kernel
theorem dX8_count_125 : decode cX8_count 125 = .ok (.iconst 0, 1) := by decide +kernel
theorem dX8_count_126 : decode cX8_count 126 = .ok (.istore_n 3, 1) := by decide +kernel
theorem dX8_count_127 : decode cX8_count 127 = .ok (.iload_n 3, 1) := by decide +kernel
theorem dX8_count_128 : decode cX8_count 128 = .ok (.bipush 6, 2) := by decide +kernel
theorem dX8_count_130 : decode cX8_count 130 = .ok (.if_icmp .ge 21, 3) := by decide +kernel
theorem dX8_count_133 : decode cX8_count 133 = .ok (.iload_n 2, 1) := by decide +kernel
theorem dX8_count_134 : decode cX8_count 134 = .ok (.aload_n 0, 1) := by decide +kernel
theorem dX8_count_135 : decode cX8_count 135 = .ok (.getfield 40, 3) := by decide +kernel
theorem dX8_count_138 : decode cX8_count 138 = .ok (.bipush 16, 2) := by decide +kernel
theorem dX8_count_140 : decode cX8_count 140 = .ok (.iload_n 3, 1) := by decide +kernel
theorem dX8_count_141 : decode cX8_count 141 = .ok (.iadd, 1) := by decide +kernel
theorem dX8_count_142 : decode cX8_count 142 = .ok (.iaload, 1) := by decide +kernel
theorem dX8_count_143 : decode cX8_count 143 = .ok (.iadd, 1) := by decide +kernel
theorem dX8_count_144 : decode cX8_count 144 = .ok (.istore_n 2, 1) := by decide +kernel
theorem dX8_count_145 : decode cX8_count 145 = .ok (.iinc 3 1, 3) := by decide +kernel
theorem dX8_count_148 : decode cX8_count 148 = .ok (.goto (-21), 3) := by decide +kernel
theorem dX8_count_151 : decode cX8_count 151 = .ok (.iload_n 2, 1) := by decide +kernel
theorem dX8_count_152 : decode cX8_count 152 = .ok (.ireturn, 1) := by decide +kernel
theorem dX8_count_153 : decode cX8_count 153 = .ok (.aload_n 0, 1) := by decide +kernel
theorem dX8_count_154 : decode cX8_count 154 = .ok (.invokevirtual 298, 3) := by decide +kernel
theorem dX8_count_157 : decode cX8_count 157 = .ok (.ireturn, 1) := by decide +kernel
theorem dX8_needed_0 : decode cX8_needed 0 = .ok (.iconst 0, 1) := by decide +kernel
theorem dX8_needed_1 : decode cX8_needed 1 = .ok (.istore_n 2, 1) := by decide +kernel
theorem dX8_needed_2 : decode cX8_needed 2 = .ok (.iconst 0, 1) := by decide +kernel
theorem dX8_needed_3 : decode cX8_needed 3 = .ok (.istore_n 3, 1) := by decide +kernel
theorem dX8_needed_4 : decode cX8_needed 4 = .ok (.iload_n 3, 1) := by decide +kernel
theorem dX8_needed_5 : decode cX8_needed 5 = .ok (.iload_n 1, 1) := by decide +kernel
theorem dX8_needed_6 : decode cX8_needed 6 = .ok (.if_icmp .ge 37, 3) := by decide +kernel
theorem dX8_needed_43 : decode cX8_needed 43 = .ok (.iload_n 2, 1) := by decide +kernel
theorem dX8_needed_44 : decode cX8_needed 44 = .ok (.ireturn, 1) := by decide +kernel
theorem dX8_needed_9 : decode cX8_needed 9 = .ok (.iload_n 2, 1) := by decide +kernel
theorem dX8_needed_10 : decode cX8_needed 10 = .ok (.iload_n 0, 1) := by decide +kernel
theorem dX8_needed_11 : decode cX8_needed 11 = .ok (.iadd, 1) := by decide +kernel
theorem dX8_needed_12 : decode cX8_needed 12 = .ok (.iconst 3, 1) := by decide +kernel
theorem dX8_needed_13 : decode cX8_needed 13 = .ok (.isub, 1) := by decide +kernel
theorem dX8_needed_14 : decode cX8_needed 14 = .ok (.iload_n 0, 1) := by decide +kernel
theorem dX8_needed_15 : decode cX8_needed 15 = .ok (.iconst 2, 1) := by decide +kernel
theorem dX8_needed_16 : decode cX8_needed 16 = .ok (.isub, 1) := by decide +kernel
theorem dX8_needed_17 : decode cX8_needed 17 = .ok (.idiv, 1) := by decide +kernel
theorem dX8_needed_18 : decode cX8_needed 18 = .ok (.istore 4, 2) := by decide +kernel
theorem dX8_needed_20 : decode cX8_needed 20 = .ok (.iload_n 2, 1) := by decide +kernel
theorem dX8_needed_21 : decode cX8_needed 21 = .ok (.iconst 2, 1) := by decide +kernel
theorem dX8_needed_22 : decode cX8_needed 22 = .ok (.iload 4, 2) := by decide +kernel
theorem dX8_needed_24 : decode cX8_needed 24 = .ok (.iconst 1, 1) := by decide +kernel
theorem dX8_needed_25 : decode cX8_needed 25 = .ok (.if_icmp .ge 7, 3) := by decide +kernel
theorem dX8_needed_32 : decode cX8_needed 32 = .ok (.iload 4, 2) := by decide +kernel
theorem dX8_needed_34 : decode cX8_needed 34 = .ok (.imul, 1) := by decide +kernel
theorem dX8_needed_35 : decode cX8_needed 35 = .ok (.iadd, 1) := by decide +kernel
theorem dX8_needed_36 : decode cX8_needed 36 = .ok (.istore_n 2, 1) := by decide +kernel
theorem dX8_needed_37 : decode cX8_needed 37 = .ok (.iinc 3 1, 3) := by decide +kernel
theorem dX8_needed_40 : decode cX8_needed 40 = .ok (.goto (-36), 3) := by decide +kernel
theorem dX8_needed_28 : decode cX8_needed 28 = .ok (.iconst 1, 1) := by decide +kernel
theorem dX8_needed_29 : decode cX8_needed 29 = .ok (.goto 5, 3) := by decide +kernel
theorem dX8_need__0 : decode cX8_need_ 0 = .ok (.aload_n 0, 1) := by decide +kernel
theorem dX8_need__1 : decode cX8_need_ 1 = .ok (.iconst 0, 1) := by decide +kernel
theorem dX8_need__2 : decode cX8_need_ 2 = .ok (.putfield 126, 3) := by decide +kernel
theorem dX8_need__5 : decode cX8_need_ 5 = .ok (.iload_n 1, 1) := by decide +kernel
theorem dX8_need__6 : decode cX8_need_ 6 = .ok (.iconst 3, 1) := by decide +kernel
theorem dX8_need__7 : decode cX8_need_ 7 = .ok (.sipush 200, 3) := by decide +kernel
theorem dX8_need__10 : decode cX8_need_ 10 = .ok (.invokestatic 140, 3) := by decide +kernel
theorem dX8_need__13 : decode cX8_need_ 13 = .ok (.ifCond .eq 21, 3) := by decide +kernel
theorem dX8_need__34 : decode cX8_need_ 34 = .ok (.iconst (-1), 1) := by decide +kernel
theorem dX8_need__35 : decode cX8_need_ 35 = .ok (.ireturn, 1) := by decide +kernel
theorem dX8_need__16 : decode cX8_need_ 16 = .ok (.iload_n 2, 1) := by decide +kernel
theorem dX8_need__17 : decode cX8_need_ 17 = .ok (.iconst 0, 1) := by decide +kernel
theorem dX8_need__18 : decode cX8_need_ 18 = .ok (.bipush 15, 2) := by decide +kernel
theorem dX8_need__20 : decode cX8_need_ 20 = .ok (.invokestatic 140, 3) := by decide +kernel
theorem dX8_need__23 : decode cX8_need_ 23 = .ok (.ifCond .eq 11, 3) := by decide +kernel
theorem dX8_need__26 : decode cX8_need_ 26 = .ok (.iload_n 1, 1) := by decide +kernel
theorem dX8_need__27 : decode cX8_need_ 27 = .ok (.iload_n 2, 1) := by decide +kernel
theorem dX8_need__28 : decode cX8_need_ 28 = .ok (.invokestatic 310, 3) := by decide +kernel
theorem dX8_need__31 : decode cX8_need_ 31 = .ok (.goto 4, 3) := by decide +kernel
theorem dX8_far_0 : decode cX8_far 0 = .ok (.aload_n 0, 1) := by decide +kernel
theorem dX8_far_1 : decode cX8_far 1 = .ok (.iconst 0, 1) := by decide +kernel
theorem dX8_far_2 : decode cX8_far 2 = .ok (.putfield 126, 3) := by decide +kernel
theorem dX8_far_5 : decode cX8_far 5 = .ok (.iload_n 1, 1) := by decide +kernel
theorem dX8_far_6 : decode cX8_far 6 = .ok (.iconst 3, 1) := by decide +kernel
theorem dX8_far_7 : decode cX8_far 7 = .ok (.sipush 200, 3) := by decide +kernel
theorem dX8_far_10 : decode cX8_far 10 = .ok (.invokestatic 140, 3) := by decide +kernel
theorem dX8_far_13 : decode cX8_far 13 = .ok (.ifCond .eq 14, 3) := by decide +kernel
theorem dX8_far_27 : decode cX8_far 27 = .ok (.iconst (-1), 1) := by decide +kernel
theorem dX8_far_28 : decode cX8_far 28 = .ok (.ireturn, 1) := by decide +kernel
theorem dX8_far_16 : decode cX8_far 16 = .ok (.iload_n 2, 1) := by decide +kernel
theorem dX8_far_17 : decode cX8_far 17 = .ok (.iconst 0, 1) := by decide +kernel
theorem dX8_far_18 : decode cX8_far 18 = .ok (.ldc_w 313, 3) := by decide +kernel
theorem dX8_far_21 : decode cX8_far 21 = .ok (.invokestatic 140, 3) := by decide +kernel
theorem dX8_far_24 : decode cX8_far 24 = .ok (.ifCond .ne 5, 3) := by decide +kernel
theorem dX8_far_29 : decode cX8_far 29 = .ok (.iconst 0, 1) := by decide +kernel
theorem dX8_far_30 : decode cX8_far 30 = .ok (.istore_n 3, 1) := by decide +kernel
theorem dX8_far_31 : decode cX8_far 31 = .ok (.iload_n 3, 1) := by decide +kernel
theorem dX8_far_32 : decode cX8_far 32 = .ok (.iconst 1, 1) := by decide +kernel
theorem dX8_far_33 : decode cX8_far 33 = .ok (.iadd, 1) := by decide +kernel
theorem dX8_far_34 : decode cX8_far 34 = .ok (.bipush 16, 2) := by decide +kernel
theorem dX8_far_36 : decode cX8_far 36 = .ok (.if_icmp .ge 20, 3) := by decide +kernel
theorem dX8_far_56 : decode cX8_far 56 = .ok (.iload_n 3, 1) := by decide +kernel
theorem dX8_far_57 : decode cX8_far 57 = .ok (.ireturn, 1) := by decide +kernel
theorem dX8_far_39 : decode cX8_far 39 = .ok (.iload_n 1, 1) := by decide +kernel
theorem dX8_far_40 : decode cX8_far 40 = .ok (.iload_n 3, 1) := by decide +kernel
theorem dX8_far_41 : decode cX8_far 41 = .ok (.iconst 1, 1) := by decide +kernel
theorem dX8_far_42 : decode cX8_far 42 = .ok (.iadd, 1) := by decide +kernel
theorem dX8_far_43 : decode cX8_far 43 = .ok (.invokestatic 310, 3) := by decide +kernel
theorem dX8_far_46 : decode cX8_far 46 = .ok (.iload_n 2, 1) := by decide +kernel
theorem dX8_far_47 : decode cX8_far 47 = .ok (.if_icmp .gt 9, 3) := by decide +kernel
theorem dX8_far_50 : decode cX8_far 50 = .ok (.iinc 3 1, 3) := by decide +kernel
theorem dX8_far_53 : decode cX8_far 53 = .ok (.goto (-22), 3) := by decide +kernel
theorem dX8_image_0 : decode cX8_image 0 = .ok (.aload_n 0, 1) := by decide +kernel
theorem dX8_image_1 : decode cX8_image 1 = .ok (.iconst 0, 1) := by decide +kernel
theorem dX8_image_2 : decode cX8_image 2 = .ok (.putfield 126, 3) := by decide +kernel
theorem dX8_image_5 : decode cX8_image 5 = .ok (.iload_n 1, 1) := by decide +kernel
theorem dX8_image_6 : decode cX8_image 6 = .ok (.iconst 0, 1) := by decide +kernel
theorem dX8_image_7 : decode cX8_image 7 = .ok (.iconst 2, 1) := by decide +kernel
theorem dX8_image_8 : decode cX8_image 8 = .ok (.invokestatic 140, 3) := by decide +kernel
theorem dX8_image_11 : decode cX8_image 11 = .ok (.ifCond .ne 5, 3) := by decide +kernel
theorem dX8_image_16 : decode cX8_image 16 = .ok (.aload_n 0, 1) := by decide +kernel
theorem dX8_image_17 : decode cX8_image 17 = .ok (.iconst 0, 1) := by decide +kernel
theorem dX8_image_18 : decode cX8_image 18 = .ok (.iload_n 1, 1) := by decide +kernel
theorem dX8_image_19 : decode cX8_image 19 = .ok (.iconst 1, 1) := by decide +kernel
theorem dX8_image_20 : decode cX8_image 20 = .ok (.iadd, 1) := by decide +kernel
theorem dX8_image_21 : decode cX8_image 21 = .ok (.invokevirtual 295, 3) := by decide +kernel
theorem dX8_image_24 : decode cX8_image 24 = .ok (.aload_n 0, 1) := by decide +kernel
theorem dX8_image_25 : decode cX8_image 25 = .ok (.getfield 111, 3) := by decide +kernel
theorem dX8_image_28 : decode cX8_image 28 = .ok (.iload_n 1, 1) := by decide +kernel
theorem dX8_image_29 : decode cX8_image 29 = .ok (.iconst 1, 1) := by decide +kernel
theorem dX8_image_30 : decode cX8_image 30 = .ok (.bastore, 1) := by decide +kernel
theorem dX8_image_31 : decode cX8_image 31 = .ok (.iconst 1, 1) := by decide +kernel
theorem dX8_image_32 : decode cX8_image 32 = .ok (.ireturn, 1) := by decide +kernel
theorem dX8_image_14 : decode cX8_image 14 = .ok (.iconst 0, 1) := by decide +kernel
theorem dX8_image_15 : decode cX8_image 15 = .ok (.ireturn, 1) := by decide +kernel
theorem dX8_again_0 : decode cX8_again 0 = .ok (.aload_n 0, 1) := by decide +kernel
theorem dX8_again_1 : decode cX8_again 1 = .ok (.iconst 0, 1) := by decide +kernel
theorem dX8_again_2 : decode cX8_again 2 = .ok (.putfield 126, 3) := by decide +kernel
theorem dX8_again_5 : decode cX8_again 5 = .ok (.iload_n 1, 1) := by decide +kernel
theorem dX8_again_6 : decode cX8_again 6 = .ok (.iconst 0, 1) := by decide +kernel
theorem dX8_again_7 : decode cX8_again 7 = .ok (.iconst 2, 1) := by decide +kernel
theorem dX8_again_8 : decode cX8_again 8 = .ok (.invokestatic 140, 3) := by decide +kernel
theorem dX8_again_11 : decode cX8_again 11 = .ok (.ifCond .eq 12, 3) := by decide +kernel
theorem dX8_again_23 : decode cX8_again 23 = .ok (.iconst 0, 1) := by decide +kernel
theorem dX8_again_24 : decode cX8_again 24 = .ok (.ireturn, 1) := by decide +kernel
theorem dX8_again_14 : decode cX8_again 14 = .ok (.aload_n 0, 1) := by decide +kernel
theorem dX8_again_15 : decode cX8_again 15 = .ok (.getfield 111, 3) := by decide +kernel
theorem dX8_again_18 : decode cX8_again 18 = .ok (.iload_n 1, 1) := by decide +kernel
theorem dX8_again_19 : decode cX8_again 19 = .ok (.baload, 1) := by decide +kernel
theorem dX8_again_20 : decode cX8_again 20 = .ok (.ifCond .ne 5, 3) := by decide +kernel
theorem dX8_ahead_0 : decode cX8_ahead 0 = .ok (.aload_n 0, 1) := by decide +kernel
theorem dX8_ahead_1 : decode cX8_ahead 1 = .ok (.iconst 0, 1) := by decide +kernel
theorem dX8_ahead_2 : decode cX8_ahead 2 = .ok (.putfield 126, 3) := by decide +kernel
theorem dX8_ahead_5 : decode cX8_ahead 5 = .ok (.aload_n 0, 1) := by decide +kernel
theorem dX8_ahead_6 : decode cX8_ahead 6 = .ok (.iload_n 1, 1) := by decide +kernel
theorem dX8_ahead_7 : decode cX8_ahead 7 = .ok (.invokevirtual 289, 3) := by decide +kernel
theorem dX8_ahead_10 : decode cX8_ahead 10 = .ok (.ifCond .eq 12, 3) := by decide +kernel
theorem dX8_ahead_22 : decode cX8_ahead 22 = .ok (.bipush (-2), 2) := by decide +kernel
theorem dX8_ahead_24 : decode cX8_ahead 24 = .ok (.ireturn, 1) := by decide +kernel
theorem dX8_ahead_13 : decode cX8_ahead 13 = .ok (.iload_n 2, 1) := by decide +kernel
theorem dX8_ahead_14 : decode cX8_ahead 14 = .ok (.iconst 0, 1) := by decide +kernel
theorem dX8_ahead_15 : decode cX8_ahead 15 = .ok (.iconst 2, 1) := by decide +kernel
theorem dX8_ahead_16 : decode cX8_ahead 16 = .ok (.invokestatic 140, 3) := by decide +kernel
theorem dX8_ahead_19 : decode cX8_ahead 19 = .ok (.ifCond .ne 6, 3) := by decide +kernel
theorem dX8_ahead_25 : decode cX8_ahead 25 = .ok (.aload_n 0, 1) := by decide +kernel
theorem dX8_ahead_26 : decode cX8_ahead 26 = .ok (.iconst 0, 1) := by decide +kernel
theorem dX8_ahead_27 : decode cX8_ahead 27 = .ok (.iconst 4, 1) := by decide +kernel
theorem dX8_ahead_28 : decode cX8_ahead 28 = .ok (.invokevirtual 295, 3) := by decide +kernel
theorem dX8_ahead_31 : decode cX8_ahead 31 = .ok (.iconst (-1), 1) := by decide +kernel
theorem dX8_ahead_32 : decode cX8_ahead 32 = .ok (.istore_n 3, 1) := by decide +kernel
theorem dX8_ahead_33 : decode cX8_ahead 33 = .ok (.iconst 0, 1) := by decide +kernel
theorem dX8_ahead_34 : decode cX8_ahead 34 = .ok (.istore 4, 2) := by decide +kernel
theorem dX8_ahead_36 : decode cX8_ahead 36 = .ok (.iload 4, 2) := by decide +kernel
theorem dX8_ahead_38 : decode cX8_ahead 38 = .ok (.iload_n 1, 1) := by decide +kernel
theorem dX8_ahead_39 : decode cX8_ahead 39 = .ok (.if_icmp .ge 75, 3) := by decide +kernel
theorem dX8_ahead_114 : decode cX8_ahead 114 = .ok (.iload_n 2, 1) := by decide +kernel
theorem dX8_ahead_115 : decode cX8_ahead 115 = .ok (.ifCond .ne 7, 3) := by decide +kernel
theorem dX8_ahead_122 : decode cX8_ahead 122 = .ok (.iload_n 2, 1) := by decide +kernel
theorem dX8_ahead_123 : decode cX8_ahead 123 = .ok (.iconst 1, 1) := by decide +kernel
theorem dX8_ahead_124 : decode cX8_ahead 124 = .ok (.if_icmp .ne 10, 3) := by decide +kernel
theorem dX8_ahead_134 : decode cX8_ahead 134 = .ok (.aload_n 0, 1) := by decide +kernel
theorem dX8_ahead_135 : decode cX8_ahead 135 = .ok (.invokevirtual 301, 3) := by decide +kernel
theorem dX8_ahead_138 : decode cX8_ahead 138 = .ok (.istore 4, 2) := by decide +kernel
theorem dX8_ahead_140 : decode cX8_ahead 140 = .ok (.aload_n 0, 1) := by decide +kernel
theorem dX8_ahead_141 : decode cX8_ahead 141 = .ok (.iconst 4, 1) := by decide +kernel
theorem dX8_ahead_142 : decode cX8_ahead 142 = .ok (.iconst 0, 1) := by decide +kernel
theorem dX8_ahead_143 : decode cX8_ahead 143 = .ok (.invokevirtual 295, 3) := by decide +kernel
theorem dX8_ahead_146 : decode cX8_ahead 146 = .ok (.iload 4, 2) := by decide +kernel
theorem dX8_ahead_148 : decode cX8_ahead 148 = .ok (.ireturn, 1) := by decide +kernel
theorem dX8_ahead_127 : decode cX8_ahead 127 = .ok (.aload_n 0, 1) := by decide +kernel
theorem dX8_ahead_128 : decode cX8_ahead 128 = .ok (.invokevirtual 298, 3) := by decide +kernel
theorem dX8_ahead_131 : decode cX8_ahead 131 = .ok (.goto 7, 3) := by decide +kernel
theorem dX8_ahead_118 : decode cX8_ahead 118 = .ok (.iload_n 3, 1) := by decide +kernel
theorem dX8_ahead_119 : decode cX8_ahead 119 = .ok (.goto 19, 3) := by decide +kernel
theorem dX8_ahead_42 : decode cX8_ahead 42 = .ok (.aload_n 0, 1) := by decide +kernel
theorem dX8_ahead_43 : decode cX8_ahead 43 = .ok (.invokevirtual 292, 3) := by decide +kernel
theorem dX8_ahead_46 : decode cX8_ahead 46 = .ok (.iconst 0, 1) := by decide +kernel
theorem dX8_ahead_47 : decode cX8_ahead 47 = .ok (.istore 5, 2) := by decide +kernel
theorem dX8_ahead_49 : decode cX8_ahead 49 = .ok (.iload 5, 2) := by decide +kernel
theorem dX8_ahead_51 : decode cX8_ahead 51 = .ok (.aload_n 0, 1) := by decide +kernel
theorem dX8_ahead_52 : decode cX8_ahead 52 = .ok (.getfield 56, 3) := by decide +kernel
theorem dX8_ahead_55 : decode cX8_ahead 55 = .ok (.iconst 0, 1) := by decide +kernel
theorem dX8_ahead_56 : decode cX8_ahead 56 = .ok (.iaload, 1) := by decide +kernel
theorem dX8_ahead_57 : decode cX8_ahead 57 = .ok (.if_icmp .ge 51, 3) := by decide +kernel
theorem dX8_ahead_108 : decode cX8_ahead 108 = .ok (.iinc 4 1, 3) := by decide +kernel
theorem dX8_ahead_111 : decode cX8_ahead 111 = .ok (.goto (-75), 3) := by decide +kernel
def mg (n : Int32) : Int32 := if inn n 1 50 = 0 then 0 else if 400 < 0 + n then 0 else 1
def nb2 (n k : Int32) : Int32 := n + 2 * (if (n + k - 3) / (k - 2) < 1 then 1 else (n + k - 3) / (k - 2))
def nd2 (k : Int32) : Nat → Int32
  | 0 => 0
  | j + 1 => nb2 (nd2 k j) k
def fr2 (k w : Int32) : Nat → Nat → Int32
  | 0, j => nI j
  | n + 1, j => if w < nd2 k (j + 1) then nI j else fr2 k w n (j + 1)
def mCamp (k w : Int32) : Int32 := if inn k 0 15 = 0 then -1 else if w = 0 then 0 else if w = 2 then 0 else -1
def F0c : Nat → Nat → Int32 := fun k => if k = 9 then mk1 22 else if k = 10 then mk1 22 else if k = 15 then mk1 16 else fun _ => 0
theorem mg_in {n : Int32} (h : ¬ mg n = 0) : ∃ j : Nat, j < 51 ∧ n = nI j := by
  unfold mg at h
  by_cases h1 : inn n 1 50 = 0
  · rw [if_pos h1] at h; exact absurd rfl h
  · exact vp_in_of (inn_in (a := 1) (b := 50) (N := 51) rfl rfl (by decide) h1) (by decide)
theorem mk1_in {k : Int32} {N : Nat} (h : vp_in k N) : mk1 N k.toNatClampNeg = -1 := by
  unfold mk1
  exact if_pos (Nat.not_le.mp fun q => h (Or.inr q))
theorem k2_ne {k : Int32} (h : ¬ inn k 3 200 = 0) : ¬ k - 2 = 0 := by
  intro e
  have h1 := inn_lo h
  have h2 : k = 2 := by
    have h3 := congrArg (· + (2 : Int32)) e
    simpa using h3
  rw [h2] at h1
  exact h1 (by decide)
theorem mv_step {f g : Nat → Int32} {a b k : Nat} (hb : b + k < 2 ^ 31) (h1 : ∀ j, (j < b ∨ b + k ≤ j) → g j = f j) (h2 : ∀ j, j < k → g (b + j) = f (a + j)) : (∀ j, (j < b ∨ b + (k + 1) ≤ j) → upd g (nI (b + k)).toNatClampNeg (f (a + k)) j = f j) ∧ ∀ j, j < k + 1 → upd g (nI (b + k)).toNatClampNeg (f (a + k)) (b + j) = f (a + j) := by
  rw [nI_clamp hb]
  refine ⟨fun j hj => ?_, fun j hj => ?_⟩
  · rw [pk_un (by omega)]; exact h1 j (by omega)
  · by_cases hjk : j = k
    · rw [hjk]; exact pk_us
    · rw [pk_un (by omega)]; exact h2 j (by omega)

def vs_oneDay : List Cond := [.code yX8_oneDay cX8_oneDay 3 none, .fieldLink RX8 56 "DepotMarchModel" "parties" "[I", .fieldLink RX8 46 "DepotMarchModel" "day" "[I"] ++ (wsX80)
theorem in_oneDay_X8 : ∀ w ∈ u_ws RX8 TX8 48, w ∈ vs_oneDay := fun w h => List.mem_append_right _ (h)
set_option maxHeartbeats 4000000 in
set_option maxRecDepth 100000 in
theorem c_oneDay (l : Launch) (dC : Nat → ClassId) (dI : Nat → Nat → Nat) (cI cZ cB cJ cP cW : ClassId) (r : Nat → Nat) (fp : Nat → Int32) (fd : Nat → Int32) (sz : Nat) (hp : fp 0 = 0) : Met l yX8_oneDay vs_oneDay ({ frames := 1, cells := 0, slots := 0, locals := 60 }) (va_Pc [.ref (r 0)] (fun U => U.heap.size = sz ∧ EV dC dI cI cZ cB cJ cP cW U ∧ va_P (dC, dI) vwCl [((r 0), .inr (8, [.int 0, .ref (r 1), .int 0, .ref (r 3), .ref (r 4), .ref (r 5), .ref (r 6), .ref (r 7), .ref (r 8), .ref (r 9), .ref (r 10), .ref (r 11), .ref (r 12), .ref (r 13), .ref (r 14), .ref (r 15), .ref (r 16), .ref (r 17), .ref (r 18), .ref (r 19), .ref (r 20), .ref (r 21), .ref (r 22), .ref (r 23), .ref (r 24), .ref (r 25), .ref (r 26), .ref (r 27), .ref (r 28), .ref (r 29), .int 0, .int 0, .int 0, .int 0, .int 0, .int 0, .int (-1), .int 0, .int 0, .int 0, .int 0, .int 0, .int 0, .ref (r 43), .ref (r 44), .ref (r 45), .int 0, .ref (r 47)])), ((r 16), .inl (cI, 5, .inl fp)), ((r 13), .inl (cI, 5, .inl fd))] U.heap ∧ va_D (fun _ => True) [((r 0), .inr (8, [.int 0, .ref (r 1), .int 0, .ref (r 3), .ref (r 4), .ref (r 5), .ref (r 6), .ref (r 7), .ref (r 8), .ref (r 9), .ref (r 10), .ref (r 11), .ref (r 12), .ref (r 13), .ref (r 14), .ref (r 15), .ref (r 16), .ref (r 17), .ref (r 18), .ref (r 19), .ref (r 20), .ref (r 21), .ref (r 22), .ref (r 23), .ref (r 24), .ref (r 25), .ref (r 26), .ref (r 27), .ref (r 28), .ref (r 29), .int 0, .int 0, .int 0, .int 0, .int 0, .int 0, .int (-1), .int 0, .int 0, .int 0, .int 0, .int 0, .int 0, .ref (r 43), .ref (r 44), .ref (r 45), .int 0, .ref (r 47)])), ((r 16), .inl (cI, 5, .inl fp)), ((r 13), .inl (cI, 5, .inl fd))])) (va_Qv (fun (u : Nat → Int32) => u 0 = fd 0 + 1) (fun u t => va_P (dC, dI) vwCl [((r 0), .inr (8, [.int 0, .ref (r 1), .int 0, .ref (r 3), .ref (r 4), .ref (r 5), .ref (r 6), .ref (r 7), .ref (r 8), .ref (r 9), .ref (r 10), .ref (r 11), .ref (r 12), .ref (r 13), .ref (r 14), .ref (r 15), .ref (r 16), .ref (r 17), .ref (r 18), .ref (r 19), .ref (r 20), .ref (r 21), .ref (r 22), .ref (r 23), .ref (r 24), .ref (r 25), .ref (r 26), .ref (r 27), .ref (r 28), .ref (r 29), .int 0, .int 0, .int 0, .int 0, .int 0, .int 0, .int (-1), .int 0, .int 0, .int 0, .int 0, .int 0, .int 0, .ref (r 43), .ref (r 44), .ref (r 45), .int 0, .ref (r 47)])), ((r 16), .inl (cI, 5, .inl fp)), ((r 13), .inl (cI, 5, .inl u))] t.heap ∧ va_D (va_A [((r 0), .inr (8, [.int 0, .ref (r 1), .int 0, .ref (r 3), .ref (r 4), .ref (r 5), .ref (r 6), .ref (r 7), .ref (r 8), .ref (r 9), .ref (r 10), .ref (r 11), .ref (r 12), .ref (r 13), .ref (r 14), .ref (r 15), .ref (r 16), .ref (r 17), .ref (r 18), .ref (r 19), .ref (r 20), .ref (r 21), .ref (r 22), .ref (r 23), .ref (r 24), .ref (r 25), .ref (r 26), .ref (r 27), .ref (r 28), .ref (r 29), .int 0, .int 0, .int 0, .int 0, .int 0, .int 0, .int (-1), .int 0, .int 0, .int 0, .int 0, .int 0, .int 0, .ref (r 43), .ref (r 44), .ref (r 45), .int 0, .ref (r 47)])), ((r 16), .inl (cI, 5, .inl fp)), ((r 13), .inl (cI, 5, .inl fd))] sz) [((r 0), .inr (8, [.int 0, .ref (r 1), .int 0, .ref (r 3), .ref (r 4), .ref (r 5), .ref (r 6), .ref (r 7), .ref (r 8), .ref (r 9), .ref (r 10), .ref (r 11), .ref (r 12), .ref (r 13), .ref (r 14), .ref (r 15), .ref (r 16), .ref (r 17), .ref (r 18), .ref (r 19), .ref (r 20), .ref (r 21), .ref (r 22), .ref (r 23), .ref (r 24), .ref (r 25), .ref (r 26), .ref (r 27), .ref (r 28), .ref (r 29), .int 0, .int 0, .int 0, .int 0, .int 0, .int 0, .int (-1), .int 0, .int 0, .int 0, .int 0, .int 0, .int 0, .ref (r 43), .ref (r 44), .ref (r 45), .int 0, .ref (r 47)])), ((r 16), .inl (cI, 5, .inl fp)), ((r 13), .inl (cI, 5, .inl u))]) (va_A [((r 0), .inr (8, [.int 0, .ref (r 1), .int 0, .ref (r 3), .ref (r 4), .ref (r 5), .ref (r 6), .ref (r 7), .ref (r 8), .ref (r 9), .ref (r 10), .ref (r 11), .ref (r 12), .ref (r 13), .ref (r 14), .ref (r 15), .ref (r 16), .ref (r 17), .ref (r 18), .ref (r 19), .ref (r 20), .ref (r 21), .ref (r 22), .ref (r 23), .ref (r 24), .ref (r 25), .ref (r 26), .ref (r 27), .ref (r 28), .ref (r 29), .int 0, .int 0, .int 0, .int 0, .int 0, .int 0, .int (-1), .int 0, .int 0, .int 0, .int 0, .int 0, .int 0, .ref (r 43), .ref (r 44), .ref (r 45), .int 0, .ref (r 47)])), ((r 16), .inl (cI, 5, .inl fp)), ((r 13), .inl (cI, 5, .inl fd))] sz)) 0 0 (va_A [((r 0), .inr (8, [.int 0, .ref (r 1), .int 0, .ref (r 3), .ref (r 4), .ref (r 5), .ref (r 6), .ref (r 7), .ref (r 8), .ref (r 9), .ref (r 10), .ref (r 11), .ref (r 12), .ref (r 13), .ref (r 14), .ref (r 15), .ref (r 16), .ref (r 17), .ref (r 18), .ref (r 19), .ref (r 20), .ref (r 21), .ref (r 22), .ref (r 23), .ref (r 24), .ref (r 25), .ref (r 26), .ref (r 27), .ref (r 28), .ref (r 29), .int 0, .int 0, .int 0, .int 0, .int 0, .int 0, .int (-1), .int 0, .int 0, .int 0, .int 0, .int 0, .int 0, .ref (r 43), .ref (r 44), .ref (r 45), .int 0, .ref (r 47)])), ((r 16), .inl (cI, 5, .inl fp)), ((r 13), .inl (cI, 5, .inl fd))] sz) := by
  refine Met.ofW (cc := cX8_oneDay) (maxL := 3) (ret := none) (by decide) rfl ?_
  intro p e s m args below meth c s₁ B hml hv
  obtain ⟨rfl, hsz, hE, hP, hD0⟩ := hv
  have hx := B.exec
  have hb := B.bytes
  have hr := B.returns
  have hts := atoms_spec (ws := vs_oneDay) B.pre
  have hown : s.vm.findClass RX8 = some m.cls := findClass_of_methodNamed B.named
  have hlocks := B.notSynchronized
  have hK := hE.2
  subst hsz
  have hD := hD0.self (sz := s.heap.size)
  generalize hAe : va_A [((r 0), .inr (8, [.int 0, .ref (r 1), .int 0, .ref (r 3), .ref (r 4), .ref (r 5), .ref (r 6), .ref (r 7), .ref (r 8), .ref (r 9), .ref (r 10), .ref (r 11), .ref (r 12), .ref (r 13), .ref (r 14), .ref (r 15), .ref (r 16), .ref (r 17), .ref (r 18), .ref (r 19), .ref (r 20), .ref (r 21), .ref (r 22), .ref (r 23), .ref (r 24), .ref (r 25), .ref (r 26), .ref (r 27), .ref (r 28), .ref (r 29), .int 0, .int 0, .int 0, .int 0, .int 0, .int 0, .int (-1), .int 0, .int 0, .int 0, .int 0, .int 0, .int 0, .ref (r 43), .ref (r 44), .ref (r 45), .int 0, .ref (r 47)])), ((r 16), .inl (cI, 5, .inl fp)), ((r 13), .inl (cI, 5, .inl fd))] s.heap.size = A at hD ⊢
  have hA : ∀ q : Nat, s.heap.size ≤ q → A q := fun q h => by rw [← hAe]; exact Or.inr h
  have hS : va_S A s.heap s.heap [] := va_S.rf
  have hl := lv_entry ([.ref (r 0)]) (n := 3) (Nat.le_of_ble_eq_true rfl)
  rw [lg_entry_eq]
  generalize (lg_sl ([.ref (r 0)]) ++ List.replicate (3 - (lg_sl ([.ref (r 0)])).length) Slot.unset).toArray = ls at hl ⊢
  have hl : lv_has ls 3 [(0, .ref (r 0))] := hl
  refine lv_iconst (v := 0) hx hb dX8_oneDay_0 (by decide) ?_
  refine lv_istore_n (lv' := [(1, .int 0), (0, .ref (r 0))]) hx hb dX8_oneDay_1 rfl hl (by decide) rfl (fun ls hl => ?_)
  refine lv_iload_n hx hb dX8_oneDay_2 rfl (lv_at hl 0 rfl) ?_
  refine lv_aload_n hx hb dX8_oneDay_3 rfl (lv_at hl 1 rfl) ?_
  refine va_get (D := (dC, dI)) (ci := 8) (v := .ref (r 16)) (C := RX8) (T := TX8) (N := 48) hx hb hts in_oneDay_X8 hown hK hP 0 rfl rfl 16 (by decide) (hts (.fieldLink RX8 56 "DepotMarchModel" "parties" "[I") (by decide +kernel)) (fun _ h9 => h9) rfl dX8_oneDay_4 ?_
  refine lv_iconst (v := 0) hx hb dX8_oneDay_7 (by decide) ?_
  refine va_iald hx hb hK hP 1 0 rfl rfl (vpd rfl) dX8_oneDay_8 ?_
  refine lv_topi (fun x1 ex1 => ?_)
  obtain rfl : x1 = 0 := ex1.trans hp
  refine lv_icmp_ge (tgt := 46) hx hb dX8_oneDay_9 (by decide) (fun _ => ?_) (fun c9 => absurd (by decide) c9)
  refine lv_iconst (v := 0) hx hb dX8_oneDay_46 (by decide) ?_
  refine lv_istore_n (lv' := [(1, .int 0), (0, .ref (r 0))]) hx hb dX8_oneDay_47 rfl hl (by decide) rfl (fun ls hl => ?_)
  refine lv_iload_n hx hb dX8_oneDay_48 rfl (lv_at hl 0 rfl) ?_
  refine lv_aload_n hx hb dX8_oneDay_49 rfl (lv_at hl 1 rfl) ?_
  refine va_get (D := (dC, dI)) (ci := 8) (v := .ref (r 16)) (C := RX8) (T := TX8) (N := 48) hx hb hts in_oneDay_X8 hown hK hP 0 rfl rfl 16 (by decide) (hts (.fieldLink RX8 56 "DepotMarchModel" "parties" "[I") (by decide +kernel)) (fun _ h9 => h9) rfl dX8_oneDay_50 ?_
  refine lv_iconst (v := 0) hx hb dX8_oneDay_53 (by decide) ?_
  refine va_iald hx hb hK hP 1 0 rfl rfl (vpd rfl) dX8_oneDay_54 ?_
  refine lv_topi (fun x3 ex3 => ?_)
  obtain rfl : x3 = 0 := ex3.trans hp
  refine lv_icmp_ge (tgt := 143) hx hb dX8_oneDay_55 (by decide) (fun _ => ?_) (fun c9 => absurd (by decide) c9)
  refine lv_aload_n hx hb dX8_oneDay_143 rfl (lv_at hl 1 rfl) ?_
  refine va_get (D := (dC, dI)) (ci := 8) (v := .ref (r 13)) (C := RX8) (T := TX8) (N := 48) hx hb hts in_oneDay_X8 hown hK hP 0 rfl rfl 13 (by decide) (hts (.fieldLink RX8 46 "DepotMarchModel" "day" "[I") (by decide +kernel)) (fun _ h9 => h9) rfl dX8_oneDay_144 ?_
  refine lv_iconst (v := 0) hx hb dX8_oneDay_147 (by decide) ?_
  refine lv_dup2_11 hx hb dX8_oneDay_148 rfl rfl ?_
  refine va_iald hx hb hK hP 2 0 rfl rfl (vpd rfl) dX8_oneDay_149 ?_
  refine lv_topi (fun x5 ex5 => ?_)
  obtain rfl : x5 = (fd 0) := ex5.trans rfl
  refine lv_iconst (v := 1) hx hb dX8_oneDay_150 (by decide) ?_
  refine lv_iadd hx hb dX8_oneDay_151 ?_
  refine lv_topi (fun x6 ex6 => ?_)
  obtain rfl : x6 = (fd 0 + 1) := ex6.trans rfl
  refine va_iast hx hb hK hP hD hS 2 0 rfl rfl (vpd rfl) dX8_oneDay_152 (fun H7 locs hP hD hS => ?_)
  have hP : va_P (dC, dI) vwCl [((r 0), .inr (8, [.int 0, .ref (r 1), .int 0, .ref (r 3), .ref (r 4), .ref (r 5), .ref (r 6), .ref (r 7), .ref (r 8), .ref (r 9), .ref (r 10), .ref (r 11), .ref (r 12), .ref (r 13), .ref (r 14), .ref (r 15), .ref (r 16), .ref (r 17), .ref (r 18), .ref (r 19), .ref (r 20), .ref (r 21), .ref (r 22), .ref (r 23), .ref (r 24), .ref (r 25), .ref (r 26), .ref (r 27), .ref (r 28), .ref (r 29), .int 0, .int 0, .int 0, .int 0, .int 0, .int 0, .int (-1), .int 0, .int 0, .int 0, .int 0, .int 0, .int 0, .ref (r 43), .ref (r 44), .ref (r 45), .int 0, .ref (r 47)])), ((r 16), .inl (cI, 5, .inl fp)), ((r 13), .inl (cI, 5, .inl (upd fd 0 (fd 0 + 1))))] H7 := hP
  have hD : va_D A [((r 0), .inr (8, [.int 0, .ref (r 1), .int 0, .ref (r 3), .ref (r 4), .ref (r 5), .ref (r 6), .ref (r 7), .ref (r 8), .ref (r 9), .ref (r 10), .ref (r 11), .ref (r 12), .ref (r 13), .ref (r 14), .ref (r 15), .ref (r 16), .ref (r 17), .ref (r 18), .ref (r 19), .ref (r 20), .ref (r 21), .ref (r 22), .ref (r 23), .ref (r 24), .ref (r 25), .ref (r 26), .ref (r 27), .ref (r 28), .ref (r 29), .int 0, .int 0, .int 0, .int 0, .int 0, .int 0, .int (-1), .int 0, .int 0, .int 0, .int 0, .int 0, .int 0, .ref (r 43), .ref (r 44), .ref (r 45), .int 0, .ref (r 47)])), ((r 16), .inl (cI, 5, .inl fp)), ((r 13), .inl (cI, 5, .inl (upd fd 0 (fd 0 + 1))))] := hD
  have hP9 := hP.sub (ws' := [((r 0), .inr (8, [.int 0, .ref (r 1), .int 0, .ref (r 3), .ref (r 4), .ref (r 5), .ref (r 6), .ref (r 7), .ref (r 8), .ref (r 9), .ref (r 10), .ref (r 11), .ref (r 12), .ref (r 13), .ref (r 14), .ref (r 15), .ref (r 16), .ref (r 17), .ref (r 18), .ref (r 19), .ref (r 20), .ref (r 21), .ref (r 22), .ref (r 23), .ref (r 24), .ref (r 25), .ref (r 26), .ref (r 27), .ref (r 28), .ref (r 29), .int 0, .int 0, .int 0, .int 0, .int 0, .int 0, .int (-1), .int 0, .int 0, .int 0, .int 0, .int 0, .int 0, .ref (r 43), .ref (r 44), .ref (r 45), .int 0, .ref (r 47)])), ((r 16), .inl (cI, 5, .inl fp)), ((r 13), .inl (cI, 5, .inl (upd fd 0 (fd 0 + 1))))]) [0, 1, 2] rfl
  have hD9 := hD.sub (ws' := [((r 0), .inr (8, [.int 0, .ref (r 1), .int 0, .ref (r 3), .ref (r 4), .ref (r 5), .ref (r 6), .ref (r 7), .ref (r 8), .ref (r 9), .ref (r 10), .ref (r 11), .ref (r 12), .ref (r 13), .ref (r 14), .ref (r 15), .ref (r 16), .ref (r 17), .ref (r 18), .ref (r 19), .ref (r 20), .ref (r 21), .ref (r 22), .ref (r 23), .ref (r 24), .ref (r 25), .ref (r 26), .ref (r 27), .ref (r 28), .ref (r 29), .int 0, .int 0, .int 0, .int 0, .int 0, .int 0, .int (-1), .int 0, .int 0, .int 0, .int 0, .int 0, .int 0, .ref (r 43), .ref (r 44), .ref (r 45), .int 0, .ref (r 47)])), ((r 16), .inl (cI, 5, .inl fp)), ((r 13), .inl (cI, 5, .inl (upd fd 0 (fd 0 + 1))))]) [0, 1, 2] (by decide) rfl
  refine W.widen (k := 0) (n := 0) (by decide) (by decide) ?_
  exact W.vret hx hb hr (fun t ht hW => ⟨⟨(upd fd 0 (fd 0 + 1)), rfl, pk_us, by rw [ht]; exact hP9, hD9⟩, hS.F ht⟩) hS.2.2 dX8_oneDay_153

def vs_mayGo : List Cond := [.code yX8_mayGo cX8_mayGo 2 (some .boolean), .code yX8_in cX8_in 3 (some .boolean), .methodLink RX8 140 yX8_in, .static yX8_in, .initialized RX8, .fieldLink RX8 46 "DepotMarchModel" "day" "[I"] ++ (wsX80)
theorem in_mayGo_X8 : ∀ w ∈ u_ws RX8 TX8 48, w ∈ vs_mayGo := fun w h => List.mem_append_right _ (h)
set_option maxRecDepth 20000 in
theorem gg_mayGo_in : GoodIn vs_mayGo vs_in := goodIn_r _ [1] (by decide +kernel) (by decide +kernel)
set_option maxRecDepth 20000 in
theorem g140_mayGo_in : GoodIn vs_mayGo (va_wsS RX8 140 yX8_in vs_in) := goodIn_app (goodIn_of _ (by decide +kernel)) gg_mayGo_in
set_option maxHeartbeats 4000000 in
set_option maxRecDepth 100000 in
theorem c_mayGo (l : Launch) (dC : Nat → ClassId) (dI : Nat → Nat → Nat) (cI cZ cB cJ cP cW : ClassId) (r : Nat → Nat) (n : Int32) : Met l yX8_mayGo vs_mayGo ({ frames := 2, cells := 0, slots := 0, locals := 120 }) (va_Pc [.ref (r 0), .int n] (fun U => EV dC dI cI cZ cB cJ cP cW U ∧ va_P (dC, dI) vwCl [((r 0), .inr (8, [.int 0, .ref (r 1), .int 0, .ref (r 3), .ref (r 4), .ref (r 5), .ref (r 6), .ref (r 7), .ref (r 8), .ref (r 9), .ref (r 10), .ref (r 11), .ref (r 12), .ref (r 13), .ref (r 14), .ref (r 15), .ref (r 16), .ref (r 17), .ref (r 18), .ref (r 19), .ref (r 20), .ref (r 21), .ref (r 22), .ref (r 23), .ref (r 24), .ref (r 25), .ref (r 26), .ref (r 27), .ref (r 28), .ref (r 29), .int 0, .int 0, .int 0, .int 0, .int 0, .int 0, .int (-1), .int 0, .int 0, .int 0, .int 0, .int 0, .int 0, .ref (r 43), .ref (r 44), .ref (r 45), .int 0, .ref (r 47)])), ((r 13), .inl (cI, 5, .inl (fun _ => 0)))] U.heap)) (vp_Si (fun r => r = mg n)) 0 0 (fun _ => False) := by
  refine Met.ofW (cc := cX8_mayGo) (maxL := 2) (ret := (some .boolean)) (by decide) rfl ?_
  intro p e s m args below meth c s₁ B hml hv
  obtain ⟨rfl, hE, hP⟩ := hv
  have hx := B.exec
  have hb := B.bytes
  have hr := B.returns
  have hts := atoms_spec (ws := vs_mayGo) B.pre
  have hown : s.vm.findClass RX8 = some m.cls := findClass_of_methodNamed B.named
  have hlocks := B.notSynchronized
  have hK := hE.2
  have hA : True := trivial
  have hS : va_S (fun _ => False) s.heap s.heap [] := va_S.rf
  have hl := lv_entry ([.ref (r 0), .int n]) (n := 2) (Nat.le_of_ble_eq_true rfl)
  rw [lg_entry_eq]
  generalize (lg_sl ([.ref (r 0), .int n]) ++ List.replicate (2 - (lg_sl ([.ref (r 0), .int n])).length) Slot.unset).toArray = ls at hl ⊢
  have hl : lv_has ls 2 [(0, .ref (r 0)), (1, .int n)] := hl
  refine lv_iload_n hx hb dX8_mayGo_0 rfl (lv_at hl 1 rfl) ?_
  refine lv_iconst (v := 1) hx hb dX8_mayGo_1 (by decide) ?_
  refine lv_bipush (v := 50) hx hb dX8_mayGo_2 (by decide) ?_
  refine vp_callSi (va_Run.run (va_runS (As := [.int n, .int 1, .int 50]) (rest := []) ⟨hx, hb, hml, hown, hts⟩ (c_in l dC dI cI cZ cB cJ cP cW n 1 50) (va_cwS 3 hts g140_mayGo_in rfl rfl rfl (by decide +kernel) ⟨Nat.le_of_ble_eq_true rfl, Nat.le_of_ble_eq_true rfl⟩) ⟨fbR, fun U hU hW => ⟨rfl, hE.warm hW, by rw [hU]; exact (fun k q h => by simp at h)⟩⟩ rfl rfl hl.1 rfl (lv_room (Nat.le_of_ble_eq_true rfl)) dX8_mayGo_4 ⟨Nat.le_of_ble_eq_true rfl, Nat.le_of_ble_eq_true rfl⟩)) (fun r1 hr1 => ?_)
  obtain rfl : r1 = (inn n 1 50) := hr1
  refine lv_if_eq (tgt := 28) hx hb dX8_mayGo_7 (by decide) (fun c2 => ?_) (fun c2 => ?_)
  · refine lv_iconst (v := 0) hx hb dX8_mayGo_28 (by decide) ?_
    exact W.zret (v := 0) hx hb hr rfl (fun t ht hW => ⟨0, rfl, (by rw [mg, if_pos c2]), ht⟩) (fun q h => by cases h) dX8_mayGo_29
  · refine lv_aload_n hx hb dX8_mayGo_10 rfl (lv_at hl 0 rfl) ?_
    refine va_get (D := (dC, dI)) (ci := 8) (v := .ref (r 13)) (C := RX8) (T := TX8) (N := 48) hx hb hts in_mayGo_X8 hown hK hP 0 rfl rfl 13 (by decide) (hts (.fieldLink RX8 46 "DepotMarchModel" "day" "[I") (by decide +kernel)) (fun _ h9 => h9) rfl dX8_mayGo_11 ?_
    refine lv_iconst (v := 0) hx hb dX8_mayGo_14 (by decide) ?_
    refine va_iald hx hb hK hP 1 0 rfl rfl (vpd rfl) dX8_mayGo_15 ?_
    refine lv_topi (fun x3 ex3 => ?_)
    obtain rfl : x3 = 0 := ex3.trans rfl
    refine lv_iload_n hx hb dX8_mayGo_16 rfl (lv_at hl 1 rfl) ?_
    refine lv_iadd hx hb dX8_mayGo_17 ?_
    refine lv_topi (fun x4 ex4 => ?_)
    obtain rfl : x4 = (0 + n) := ex4.trans rfl
    refine lv_sipush (v := 400) hx hb dX8_mayGo_18 (by decide) ?_
    refine lv_icmp_gt (tgt := 28) hx hb dX8_mayGo_21 (by decide) (fun c5 => ?_) (fun c5 => ?_)
    · refine lv_iconst (v := 0) hx hb dX8_mayGo_28 (by decide) ?_
      exact W.zret (v := 0) hx hb hr rfl (fun t ht hW => ⟨0, rfl, (by rw [mg, if_neg c2, if_pos c5]), ht⟩) (fun q h => by cases h) dX8_mayGo_29
    · refine lv_iconst (v := 1) hx hb dX8_mayGo_24 (by decide) ?_
      refine lv_goto (tgt := 29) hx hb dX8_mayGo_25 (by decide) ?_
      exact W.zret (v := 1) hx hb hr rfl (fun t ht hW => ⟨1, rfl, (by rw [mg, if_neg c2, if_neg c5]), ht⟩) (fun q h => by cases h) dX8_mayGo_29

def vs_m_days : List Cond := [.code yX8_days cX8_days 3 (some .int), .fieldLink RX8 126 "DepotMarchModel" "code" "I", .code yX8_mayGo cX8_mayGo 2 (some .boolean), .code yX8_in cX8_in 3 (some .boolean), .methodLink RX8 140 yX8_in, .static yX8_in, .initialized RX8, .fieldLink RX8 46 "DepotMarchModel" "day" "[I", .methodLink RX8 289 yX8_mayGo, .instanceMethod yX8_mayGo, .selects RX8 yX8_mayGo yX8_mayGo, .code yX8_oneDay cX8_oneDay 3 none, .fieldLink RX8 56 "DepotMarchModel" "parties" "[I", .methodLink RX8 292 yX8_oneDay, .instanceMethod yX8_oneDay, .selects RX8 yX8_oneDay yX8_oneDay] ++ (wsX80)
theorem in_m_days_X8 : ∀ w ∈ u_ws RX8 TX8 48, w ∈ vs_m_days := fun w h => List.mem_append_right _ (h)
set_option maxRecDepth 20000 in
theorem gg_m_days_mayGo : GoodIn vs_m_days vs_mayGo := goodIn_r _ [2, 3, 4, 5, 6, 7, 16, 17, 18, 19, 20, 21, 22, 23, 24, 25, 26, 27, 28, 29, 30, 31, 32, 33, 34, 35, 36, 37, 38, 39, 40, 41, 42, 43, 44, 45, 46, 47, 48, 49, 50, 51, 52, 53, 54, 55, 56, 57, 58, 59, 60, 61, 62, 63] (by decide +kernel) (by decide +kernel)
set_option maxRecDepth 20000 in
theorem gg_m_days_oneDay : GoodIn vs_m_days vs_oneDay := goodIn_r _ [11, 12, 7, 16, 17, 18, 19, 20, 21, 22, 23, 24, 25, 26, 27, 28, 29, 30, 31, 32, 33, 34, 35, 36, 37, 38, 39, 40, 41, 42, 43, 44, 45, 46, 47, 48, 49, 50, 51, 52, 53, 54, 55, 56, 57, 58, 59, 60, 61, 62, 63] (by decide +kernel) (by decide +kernel)
set_option maxRecDepth 20000 in
theorem g289_m_days_mayGo : GoodIn vs_m_days (wsV RX8 289 RX8 yX8_mayGo vs_mayGo) := goodIn_app (goodIn_of _ (by decide +kernel)) gg_m_days_mayGo
set_option maxRecDepth 20000 in
theorem g292_m_days_oneDay : GoodIn vs_m_days (wsV RX8 292 RX8 yX8_oneDay vs_oneDay) := goodIn_app (goodIn_of _ (by decide +kernel)) gg_m_days_oneDay
set_option maxHeartbeats 4000000 in
set_option maxRecDepth 100000 in
theorem c_m_days (l : Launch) (dC : Nat → ClassId) (dI : Nat → Nat → Nat) (cI cZ cB cJ cP cW : ClassId) (r : Nat → Nat) (n : Int32) (sz : Nat) : Met l yX8_days vs_m_days ({ frames := 6, cells := 0, slots := 0, locals := 360 }) (va_Pc [.ref (r 0), .int n] (fun U => U.heap.size = sz ∧ EV dC dI cI cZ cB cJ cP cW U ∧ va_P (dC, dI) vwCl [((r 0), .inr (8, [.int 0, .ref (r 1), .int 0, .ref (r 3), .ref (r 4), .ref (r 5), .ref (r 6), .ref (r 7), .ref (r 8), .ref (r 9), .ref (r 10), .ref (r 11), .ref (r 12), .ref (r 13), .ref (r 14), .ref (r 15), .ref (r 16), .ref (r 17), .ref (r 18), .ref (r 19), .ref (r 20), .ref (r 21), .ref (r 22), .ref (r 23), .ref (r 24), .ref (r 25), .ref (r 26), .ref (r 27), .ref (r 28), .ref (r 29), .int 0, .int 0, .int 0, .int 0, .int 0, .int 0, .int (-1), .int 0, .int 0, .int 0, .int 0, .int 0, .int 0, .ref (r 43), .ref (r 44), .ref (r 45), .int 0, .ref (r 47)])), ((r 13), .inl (cI, 5, .inl (fun _ => 0))), ((r 16), .inl (cI, 5, .inl (fun _ => 0)))] U.heap ∧ va_D (fun _ => True) [((r 0), .inr (8, [.int 0, .ref (r 1), .int 0, .ref (r 3), .ref (r 4), .ref (r 5), .ref (r 6), .ref (r 7), .ref (r 8), .ref (r 9), .ref (r 10), .ref (r 11), .ref (r 12), .ref (r 13), .ref (r 14), .ref (r 15), .ref (r 16), .ref (r 17), .ref (r 18), .ref (r 19), .ref (r 20), .ref (r 21), .ref (r 22), .ref (r 23), .ref (r 24), .ref (r 25), .ref (r 26), .ref (r 27), .ref (r 28), .ref (r 29), .int 0, .int 0, .int 0, .int 0, .int 0, .int 0, .int (-1), .int 0, .int 0, .int 0, .int 0, .int 0, .int 0, .ref (r 43), .ref (r 44), .ref (r 45), .int 0, .ref (r 47)])), ((r 13), .inl (cI, 5, .inl (fun _ => 0))), ((r 16), .inl (cI, 5, .inl (fun _ => 0)))])) (va_Qi (fun (r : Int32) (u : Unit) => r = if mg n = 0 then -1 else n) (fun u t => va_P (dC, dI) vwCl [] t.heap ∧ va_D (va_A [((r 0), .inr (8, [.int 0, .ref (r 1), .int 0, .ref (r 3), .ref (r 4), .ref (r 5), .ref (r 6), .ref (r 7), .ref (r 8), .ref (r 9), .ref (r 10), .ref (r 11), .ref (r 12), .ref (r 13), .ref (r 14), .ref (r 15), .ref (r 16), .ref (r 17), .ref (r 18), .ref (r 19), .ref (r 20), .ref (r 21), .ref (r 22), .ref (r 23), .ref (r 24), .ref (r 25), .ref (r 26), .ref (r 27), .ref (r 28), .ref (r 29), .int 0, .int 0, .int 0, .int 0, .int 0, .int 0, .int (-1), .int 0, .int 0, .int 0, .int 0, .int 0, .int 0, .ref (r 43), .ref (r 44), .ref (r 45), .int 0, .ref (r 47)])), ((r 13), .inl (cI, 5, .inl (fun _ => 0))), ((r 16), .inl (cI, 5, .inl (fun _ => 0)))] sz) []) (va_A [((r 0), .inr (8, [.int 0, .ref (r 1), .int 0, .ref (r 3), .ref (r 4), .ref (r 5), .ref (r 6), .ref (r 7), .ref (r 8), .ref (r 9), .ref (r 10), .ref (r 11), .ref (r 12), .ref (r 13), .ref (r 14), .ref (r 15), .ref (r 16), .ref (r 17), .ref (r 18), .ref (r 19), .ref (r 20), .ref (r 21), .ref (r 22), .ref (r 23), .ref (r 24), .ref (r 25), .ref (r 26), .ref (r 27), .ref (r 28), .ref (r 29), .int 0, .int 0, .int 0, .int 0, .int 0, .int 0, .int (-1), .int 0, .int 0, .int 0, .int 0, .int 0, .int 0, .ref (r 43), .ref (r 44), .ref (r 45), .int 0, .ref (r 47)])), ((r 13), .inl (cI, 5, .inl (fun _ => 0))), ((r 16), .inl (cI, 5, .inl (fun _ => 0)))] sz)) 0 0 (va_A [((r 0), .inr (8, [.int 0, .ref (r 1), .int 0, .ref (r 3), .ref (r 4), .ref (r 5), .ref (r 6), .ref (r 7), .ref (r 8), .ref (r 9), .ref (r 10), .ref (r 11), .ref (r 12), .ref (r 13), .ref (r 14), .ref (r 15), .ref (r 16), .ref (r 17), .ref (r 18), .ref (r 19), .ref (r 20), .ref (r 21), .ref (r 22), .ref (r 23), .ref (r 24), .ref (r 25), .ref (r 26), .ref (r 27), .ref (r 28), .ref (r 29), .int 0, .int 0, .int 0, .int 0, .int 0, .int 0, .int (-1), .int 0, .int 0, .int 0, .int 0, .int 0, .int 0, .ref (r 43), .ref (r 44), .ref (r 45), .int 0, .ref (r 47)])), ((r 13), .inl (cI, 5, .inl (fun _ => 0))), ((r 16), .inl (cI, 5, .inl (fun _ => 0)))] sz) := by
  refine Met.ofW (cc := cX8_days) (maxL := 3) (ret := (some .int)) (by decide) rfl ?_
  intro p e s m args below meth c s₁ B hml hv
  obtain ⟨rfl, hsz, hE, hP, hD0⟩ := hv
  have hx := B.exec
  have hb := B.bytes
  have hr := B.returns
  have hts := atoms_spec (ws := vs_m_days) B.pre
  have hown : s.vm.findClass RX8 = some m.cls := findClass_of_methodNamed B.named
  have hlocks := B.notSynchronized
  have hK := hE.2
  subst hsz
  have hD := hD0.self (sz := s.heap.size)
  generalize hAe : va_A [((r 0), .inr (8, [.int 0, .ref (r 1), .int 0, .ref (r 3), .ref (r 4), .ref (r 5), .ref (r 6), .ref (r 7), .ref (r 8), .ref (r 9), .ref (r 10), .ref (r 11), .ref (r 12), .ref (r 13), .ref (r 14), .ref (r 15), .ref (r 16), .ref (r 17), .ref (r 18), .ref (r 19), .ref (r 20), .ref (r 21), .ref (r 22), .ref (r 23), .ref (r 24), .ref (r 25), .ref (r 26), .ref (r 27), .ref (r 28), .ref (r 29), .int 0, .int 0, .int 0, .int 0, .int 0, .int 0, .int (-1), .int 0, .int 0, .int 0, .int 0, .int 0, .int 0, .ref (r 43), .ref (r 44), .ref (r 45), .int 0, .ref (r 47)])), ((r 13), .inl (cI, 5, .inl (fun _ => 0))), ((r 16), .inl (cI, 5, .inl (fun _ => 0)))] s.heap.size = A at hD ⊢
  have hA : ∀ q : Nat, s.heap.size ≤ q → A q := fun q h => by rw [← hAe]; exact Or.inr h
  have hS : va_S A s.heap s.heap [] := va_S.rf
  have hl := lv_entry ([.ref (r 0), .int n]) (n := 3) (Nat.le_of_ble_eq_true rfl)
  rw [lg_entry_eq]
  generalize (lg_sl ([.ref (r 0), .int n]) ++ List.replicate (3 - (lg_sl ([.ref (r 0), .int n])).length) Slot.unset).toArray = ls at hl ⊢
  have hl : lv_has ls 3 [(0, .ref (r 0)), (1, .int n)] := hl
  refine lv_aload_n hx hb dX8_days_0 rfl (lv_at hl 0 rfl) ?_
  refine lv_iconst (v := 0) hx hb dX8_days_1 (by decide) ?_
  refine va_put (D := (dC, dI)) (ci := 8) (v := .int 0) (ty := .int) (C := RX8) (T := TX8) (N := 48) hx hb hts in_m_days_X8 tyX8 tyX8_ok nmX8 hown hK hP hD hS 0 rfl rfl 0 (by decide) (hts (.fieldLink RX8 126 "DepotMarchModel" "code" "I") (by decide +kernel)) (fun _ h9 => h9) rfl (by decide +kernel) rfl rfl (Nat.le_of_ble_eq_true rfl) dX8_days_2 (fun H1 locs hP hD hS => ?_)
  have hP : va_P (dC, dI) vwCl [((r 0), .inr (8, [.int 0, .ref (r 1), .int 0, .ref (r 3), .ref (r 4), .ref (r 5), .ref (r 6), .ref (r 7), .ref (r 8), .ref (r 9), .ref (r 10), .ref (r 11), .ref (r 12), .ref (r 13), .ref (r 14), .ref (r 15), .ref (r 16), .ref (r 17), .ref (r 18), .ref (r 19), .ref (r 20), .ref (r 21), .ref (r 22), .ref (r 23), .ref (r 24), .ref (r 25), .ref (r 26), .ref (r 27), .ref (r 28), .ref (r 29), .int 0, .int 0, .int 0, .int 0, .int 0, .int 0, .int (-1), .int 0, .int 0, .int 0, .int 0, .int 0, .int 0, .ref (r 43), .ref (r 44), .ref (r 45), .int 0, .ref (r 47)])), ((r 13), .inl (cI, 5, .inl (fun _ => 0))), ((r 16), .inl (cI, 5, .inl (fun _ => 0)))] H1 := hP
  have hD : va_D A [((r 0), .inr (8, [.int 0, .ref (r 1), .int 0, .ref (r 3), .ref (r 4), .ref (r 5), .ref (r 6), .ref (r 7), .ref (r 8), .ref (r 9), .ref (r 10), .ref (r 11), .ref (r 12), .ref (r 13), .ref (r 14), .ref (r 15), .ref (r 16), .ref (r 17), .ref (r 18), .ref (r 19), .ref (r 20), .ref (r 21), .ref (r 22), .ref (r 23), .ref (r 24), .ref (r 25), .ref (r 26), .ref (r 27), .ref (r 28), .ref (r 29), .int 0, .int 0, .int 0, .int 0, .int 0, .int 0, .int (-1), .int 0, .int 0, .int 0, .int 0, .int 0, .int 0, .ref (r 43), .ref (r 44), .ref (r 45), .int 0, .ref (r 47)])), ((r 13), .inl (cI, 5, .inl (fun _ => 0))), ((r 16), .inl (cI, 5, .inl (fun _ => 0)))] := hD
  refine lv_aload_n hx hb dX8_days_5 rfl (lv_at hl 0 rfl) ?_
  refine lv_iload_n hx hb dX8_days_6 rfl (lv_at hl 1 rfl) ?_
  have hPc := hP.sub (ws' := [((r 0), .inr (8, [.int 0, .ref (r 1), .int 0, .ref (r 3), .ref (r 4), .ref (r 5), .ref (r 6), .ref (r 7), .ref (r 8), .ref (r 9), .ref (r 10), .ref (r 11), .ref (r 12), .ref (r 13), .ref (r 14), .ref (r 15), .ref (r 16), .ref (r 17), .ref (r 18), .ref (r 19), .ref (r 20), .ref (r 21), .ref (r 22), .ref (r 23), .ref (r 24), .ref (r 25), .ref (r 26), .ref (r 27), .ref (r 28), .ref (r 29), .int 0, .int 0, .int 0, .int 0, .int 0, .int 0, .int (-1), .int 0, .int 0, .int 0, .int 0, .int 0, .int 0, .ref (r 43), .ref (r 44), .ref (r 45), .int 0, .ref (r 47)])), ((r 13), .inl (cI, 5, .inl (fun _ => 0)))]) [0, 1] rfl
  refine vp_callSi (va_Run.run (va_runV (As := [.int n]) (rest := []) ⟨hx, hb, hml, hown, hts⟩ (c_mayGo l dC dI cI cZ cB cJ cP cW r n) (cwV 1 hts g289_m_days_mayGo rfl rfl rfl (by decide +kernel) ⟨Nat.le_of_ble_eq_true rfl, Nat.le_of_ble_eq_true rfl⟩) ⟨fbR, va_recv hK hPc (ci := 8) (q0 := 0) rfl rfl, fun U hU hW => ⟨rfl, hE.warm hW, by rw [hU]; exact hPc⟩⟩ rfl rfl hl.1 rfl (lv_room (Nat.le_of_ble_eq_true rfl)) dX8_days_7 ⟨Nat.le_of_ble_eq_true rfl, Nat.le_of_ble_eq_true rfl⟩)) (fun r2 hr2 => ?_)
  obtain rfl : r2 = (mg n) := hr2
  refine lv_if_ne (tgt := 15) hx hb dX8_days_10 (by decide) (fun c3 => ?_) (fun c3 => ?_)
  · obtain ⟨K, hKK, eK⟩ := mg_in c3
    refine lv_iconst (v := 0) hx hb dX8_days_15 (by decide) ?_
    refine lv_istore_n (lv' := [(2, .int 0), (0, .ref (r 0)), (1, .int n)]) hx hb dX8_days_16 rfl hl (by decide) rfl (fun ls hl => ?_)
    have hl := lv_sub hl [1, 2, 0] rfl
    refine W_loop (σ := Nat × (Nat → Int32)) (fun x9 => match x9 with | (j, gd) => K - j) (fun x9 H4 locs ls => match x9 with | (j, gd) => (j ≤ K ∧ gd 0 = nI j) ∧ va_P (dC, dI) vwCl [((r 0), .inr (8, [.int 0, .ref (r 1), .int 0, .ref (r 3), .ref (r 4), .ref (r 5), .ref (r 6), .ref (r 7), .ref (r 8), .ref (r 9), .ref (r 10), .ref (r 11), .ref (r 12), .ref (r 13), .ref (r 14), .ref (r 15), .ref (r 16), .ref (r 17), .ref (r 18), .ref (r 19), .ref (r 20), .ref (r 21), .ref (r 22), .ref (r 23), .ref (r 24), .ref (r 25), .ref (r 26), .ref (r 27), .ref (r 28), .ref (r 29), .int 0, .int 0, .int 0, .int 0, .int 0, .int 0, .int (-1), .int 0, .int 0, .int 0, .int 0, .int 0, .int 0, .ref (r 43), .ref (r 44), .ref (r 45), .int 0, .ref (r 47)])), ((r 13), .inl (cI, 5, .inl gd)), ((r 16), .inl (cI, 5, .inl (fun _ => 0)))] H4 ∧ va_D A [((r 0), .inr (8, [.int 0, .ref (r 1), .int 0, .ref (r 3), .ref (r 4), .ref (r 5), .ref (r 6), .ref (r 7), .ref (r 8), .ref (r 9), .ref (r 10), .ref (r 11), .ref (r 12), .ref (r 13), .ref (r 14), .ref (r 15), .ref (r 16), .ref (r 17), .ref (r 18), .ref (r 19), .ref (r 20), .ref (r 21), .ref (r 22), .ref (r 23), .ref (r 24), .ref (r 25), .ref (r 26), .ref (r 27), .ref (r 28), .ref (r 29), .int 0, .int 0, .int 0, .int 0, .int 0, .int 0, .int (-1), .int 0, .int 0, .int 0, .int 0, .int 0, .int 0, .ref (r 43), .ref (r 44), .ref (r 45), .int 0, .ref (r 47)])), ((r 13), .inl (cI, 5, .inl gd)), ((r 16), .inl (cI, 5, .inl (fun _ => 0)))] ∧ va_S A s.heap H4 locs ∧ lv_has ls 3 [(0, .ref (r 0)), (1, .int n), (2, .int (nI j))]) (fun x9 H4 locs ls hI9 ih => ?_) (0, fun _ => 0) _ _ _ ⟨⟨Nat.zero_le _, rfl⟩, hP.sub [0, 1, 2] rfl, hD.sub [0, 1, 2] (by decide) rfl, hS, hl⟩
    obtain ⟨j, gd⟩ := x9
    dsimp only at hI9
    obtain ⟨hinv, hP, hD, hS, hl⟩ := hI9
    refine lv_iload_n hx hb dX8_days_17 rfl (lv_at hl 2 rfl) ?_
    refine lv_iload_n hx hb dX8_days_18 rfl (lv_at hl 1 rfl) ?_
    refine lv_icmp_ge (tgt := 32) hx hb dX8_days_19 (by decide) (fun c5 => ?_) (fun c5 => ?_)
    · have hjK : K = j := Nat.le_antisymm (Nat.le_of_not_lt (fun h => absurd (by rw [← eK]; exact c5) (nI_ge h (by omega)))) hinv.1
      refine lv_aload_n hx hb dX8_days_32 rfl (lv_at hl 0 rfl) ?_
      refine va_get (D := (dC, dI)) (ci := 8) (v := .ref (r 13)) (C := RX8) (T := TX8) (N := 48) hx hb hts in_m_days_X8 hown hK hP 0 rfl rfl 13 (by decide) (hts (.fieldLink RX8 46 "DepotMarchModel" "day" "[I") (by decide +kernel)) (fun _ h9 => h9) rfl dX8_days_33 ?_
      refine lv_iconst (v := 0) hx hb dX8_days_36 (by decide) ?_
      refine va_iald hx hb hK hP 1 0 rfl rfl (vpd rfl) dX8_days_37 ?_
      refine lv_topi (fun x6 ex6 => ?_)
      obtain rfl : x6 = (nI j) := ex6.trans hinv.2
      have hP9 := hP.sub (ws' := []) [] rfl
      have hD9 := hD.sub (ws' := []) [] (by decide) rfl
      refine W.widen (k := 0) (n := 0) (by decide) (by decide) ?_
      exact W.iret (v := (nI j)) hx hb hr (fun t ht hW => ⟨⟨(nI j), (), rfl, (by rw [if_neg c3, eK, hjK]), by rw [ht]; exact hP9, hD9⟩, hS.F ht⟩) hS.2.2 dX8_days_38
    · have hj : j < K := Nat.lt_of_not_le (fun h => absurd (by rw [eK]; exact nI_le h (by omega)) c5)
      refine lv_aload_n hx hb dX8_days_22 rfl (lv_at hl 0 rfl) ?_
      have hPc := hP.sub (ws' := [((r 0), .inr (8, [.int 0, .ref (r 1), .int 0, .ref (r 3), .ref (r 4), .ref (r 5), .ref (r 6), .ref (r 7), .ref (r 8), .ref (r 9), .ref (r 10), .ref (r 11), .ref (r 12), .ref (r 13), .ref (r 14), .ref (r 15), .ref (r 16), .ref (r 17), .ref (r 18), .ref (r 19), .ref (r 20), .ref (r 21), .ref (r 22), .ref (r 23), .ref (r 24), .ref (r 25), .ref (r 26), .ref (r 27), .ref (r 28), .ref (r 29), .int 0, .int 0, .int 0, .int 0, .int 0, .int 0, .int (-1), .int 0, .int 0, .int 0, .int 0, .int 0, .int 0, .ref (r 43), .ref (r 44), .ref (r 45), .int 0, .ref (r 47)])), ((r 16), .inl (cI, 5, .inl (fun _ => 0))), ((r 13), .inl (cI, 5, .inl gd))]) [0, 2, 1] rfl
      have hDc := hD.sub (ws' := [((r 0), .inr (8, [.int 0, .ref (r 1), .int 0, .ref (r 3), .ref (r 4), .ref (r 5), .ref (r 6), .ref (r 7), .ref (r 8), .ref (r 9), .ref (r 10), .ref (r 11), .ref (r 12), .ref (r 13), .ref (r 14), .ref (r 15), .ref (r 16), .ref (r 17), .ref (r 18), .ref (r 19), .ref (r 20), .ref (r 21), .ref (r 22), .ref (r 23), .ref (r 24), .ref (r 25), .ref (r 26), .ref (r 27), .ref (r 28), .ref (r 29), .int 0, .int 0, .int 0, .int 0, .int 0, .int 0, .int (-1), .int 0, .int 0, .int 0, .int 0, .int 0, .int 0, .ref (r 43), .ref (r 44), .ref (r 45), .int 0, .ref (r 47)])), ((r 16), .inl (cI, 5, .inl (fun _ => 0))), ((r 13), .inl (cI, 5, .inl gd))]) [0, 2, 1] (by decide) rfl
      have hFc := va_free (wc := [((r 0), .inr (8, [.int 0, .ref (r 1), .int 0, .ref (r 3), .ref (r 4), .ref (r 5), .ref (r 6), .ref (r 7), .ref (r 8), .ref (r 9), .ref (r 10), .ref (r 11), .ref (r 12), .ref (r 13), .ref (r 14), .ref (r 15), .ref (r 16), .ref (r 17), .ref (r 18), .ref (r 19), .ref (r 20), .ref (r 21), .ref (r 22), .ref (r 23), .ref (r 24), .ref (r 25), .ref (r 26), .ref (r 27), .ref (r 28), .ref (r 29), .int 0, .int 0, .int 0, .int 0, .int 0, .int 0, .int (-1), .int 0, .int 0, .int 0, .int 0, .int 0, .int 0, .ref (r 43), .ref (r 44), .ref (r 45), .int 0, .ref (r 47)])), ((r 16), .inl (cI, 5, .inl (fun _ => 0))), ((r 13), .inl (cI, 5, .inl gd))]) hD hS hA [0, 2, 1] rfl
      refine va_callv (va_runV (As := []) (rest := []) ⟨hx, hb, hml, hown, hts⟩ ((c_oneDay l dC dI cI cZ cB cJ cP cW r (fun _ => 0) gd H4.size) rfl) (cwV 0 hts g292_m_days_oneDay rfl rfl rfl (by decide +kernel) ⟨Nat.le_of_ble_eq_true rfl, Nat.le_of_ble_eq_true rfl⟩) ⟨fbM, va_recv hK hPc (ci := 8) (q0 := 0) rfl rfl, fun U hU hW => ⟨rfl, by rw [hU], hE.warm hW, by rw [hU]; exact hPc, hDc.weaken (fun _ _ _ _ => trivial)⟩⟩ rfl rfl hl.1 rfl (lv_room (Nat.le_of_ble_eq_true rfl)) dX8_days_23 ⟨Nat.le_of_ble_eq_true rfl, Nat.le_of_ble_eq_true rfl⟩) hS (fun q _ h => hFc q h) hFc (fun u8 t H9 locs ht hvm hr7 hB hz1 hk1 hS => ?_)
      obtain ⟨hP1, hD1⟩ := hB
      rw [ht] at hP1
      obtain ⟨hP, hD⟩ := va_join (wr := []) (w1 := [((r 0), .inr (8, [.int 0, .ref (r 1), .int 0, .ref (r 3), .ref (r 4), .ref (r 5), .ref (r 6), .ref (r 7), .ref (r 8), .ref (r 9), .ref (r 10), .ref (r 11), .ref (r 12), .ref (r 13), .ref (r 14), .ref (r 15), .ref (r 16), .ref (r 17), .ref (r 18), .ref (r 19), .ref (r 20), .ref (r 21), .ref (r 22), .ref (r 23), .ref (r 24), .ref (r 25), .ref (r 26), .ref (r 27), .ref (r 28), .ref (r 29), .int 0, .int 0, .int 0, .int 0, .int 0, .int 0, .int (-1), .int 0, .int 0, .int 0, .int 0, .int 0, .int 0, .ref (r 43), .ref (r 44), .ref (r 45), .int 0, .ref (r 47)])), ((r 16), .inl (cI, 5, .inl (fun _ => 0))), ((r 13), .inl (cI, 5, .inl u8))]) hP hD [0, 2, 1] [] rfl rfl (by decide) (by decide) hk1 hFc hP1 hD1
      have hP : va_P (dC, dI) vwCl [((r 0), .inr (8, [.int 0, .ref (r 1), .int 0, .ref (r 3), .ref (r 4), .ref (r 5), .ref (r 6), .ref (r 7), .ref (r 8), .ref (r 9), .ref (r 10), .ref (r 11), .ref (r 12), .ref (r 13), .ref (r 14), .ref (r 15), .ref (r 16), .ref (r 17), .ref (r 18), .ref (r 19), .ref (r 20), .ref (r 21), .ref (r 22), .ref (r 23), .ref (r 24), .ref (r 25), .ref (r 26), .ref (r 27), .ref (r 28), .ref (r 29), .int 0, .int 0, .int 0, .int 0, .int 0, .int 0, .int (-1), .int 0, .int 0, .int 0, .int 0, .int 0, .int 0, .ref (r 43), .ref (r 44), .ref (r 45), .int 0, .ref (r 47)])), ((r 16), .inl (cI, 5, .inl (fun _ => 0))), ((r 13), .inl (cI, 5, .inl u8))] H9 := hP
      have hD : va_D A [((r 0), .inr (8, [.int 0, .ref (r 1), .int 0, .ref (r 3), .ref (r 4), .ref (r 5), .ref (r 6), .ref (r 7), .ref (r 8), .ref (r 9), .ref (r 10), .ref (r 11), .ref (r 12), .ref (r 13), .ref (r 14), .ref (r 15), .ref (r 16), .ref (r 17), .ref (r 18), .ref (r 19), .ref (r 20), .ref (r 21), .ref (r 22), .ref (r 23), .ref (r 24), .ref (r 25), .ref (r 26), .ref (r 27), .ref (r 28), .ref (r 29), .int 0, .int 0, .int 0, .int 0, .int 0, .int 0, .int (-1), .int 0, .int 0, .int 0, .int 0, .int 0, .int 0, .ref (r 43), .ref (r 44), .ref (r 45), .int 0, .ref (r 47)])), ((r 16), .inl (cI, 5, .inl (fun _ => 0))), ((r 13), .inl (cI, 5, .inl u8))] := hD
      refine lv_iinc (v := (nI (j + 1))) (lv' := [(2, .int (nI (j + 1))), (0, .ref (r 0)), (1, .int n)]) hx hb dX8_days_26 hl (k := 2) rfl (nI_1 j) (by decide) rfl (fun ls hl => ?_)
      refine lv_goto (tgt := 17) hx hb dX8_days_29 (by decide) ?_
      exact ih (j + 1, u8) _ _ _ ⟨⟨hj, by rw [hr7, hinv.2]; exact nI_1 j⟩, hP.sub [0, 2, 1] rfl, hD.sub [0, 2, 1] (by decide) rfl, hS, lv_sub hl [1, 2, 0] rfl⟩ (by show K - (j + 1) < K - j; omega)
  · refine lv_iconst (v := (-1)) hx hb dX8_days_13 (by decide) ?_
    have hP9 := hP.sub (ws' := []) [] rfl
    have hD9 := hD.sub (ws' := []) [] (by decide) rfl
    refine W.widen (k := 0) (n := 0) (by decide) (by decide) ?_
    exact W.iret (v := (-1)) hx hb hr (fun t ht hW => ⟨⟨(-1), (), rfl, (by rw [if_pos c3]), by rw [ht]; exact hP9, hD9⟩, hS.F ht⟩) hS.2.2 dX8_days_14

def vs_lost : List Cond := [.code yX8_lost cX8_lost 3 (some .int), .fieldLink RX8 56 "DepotMarchModel" "parties" "[I"] ++ (wsX80)
theorem in_lost_X8 : ∀ w ∈ u_ws RX8 TX8 48, w ∈ vs_lost := fun w h => List.mem_append_right _ (h)
set_option maxHeartbeats 4000000 in
set_option maxRecDepth 100000 in
theorem c_lost (l : Launch) (dC : Nat → ClassId) (dI : Nat → Nat → Nat) (cI cZ cB cJ cP cW : ClassId) (r : Nat → Nat) (fp : Nat → Int32) (hp : fp 0 = 0) : Met l yX8_lost vs_lost ({ frames := 1, cells := 0, slots := 0, locals := 60 }) (va_Pc [.ref (r 0)] (fun U => EV dC dI cI cZ cB cJ cP cW U ∧ va_P (dC, dI) vwCl [((r 0), .inr (8, [.int 0, .ref (r 1), .int 0, .ref (r 3), .ref (r 4), .ref (r 5), .ref (r 6), .ref (r 7), .ref (r 8), .ref (r 9), .ref (r 10), .ref (r 11), .ref (r 12), .ref (r 13), .ref (r 14), .ref (r 15), .ref (r 16), .ref (r 17), .ref (r 18), .ref (r 19), .ref (r 20), .ref (r 21), .ref (r 22), .ref (r 23), .ref (r 24), .ref (r 25), .ref (r 26), .ref (r 27), .ref (r 28), .ref (r 29), .int 0, .int 0, .int 0, .int 0, .int 0, .int 0, .int (-1), .int 0, .int 0, .int 0, .int 0, .int 0, .int 0, .ref (r 43), .ref (r 44), .ref (r 45), .int 0, .ref (r 47)])), ((r 16), .inl (cI, 5, .inl fp))] U.heap)) (vp_Si (fun r => r = 0)) 0 0 (fun _ => False) := by
  refine Met.ofW (cc := cX8_lost) (maxL := 3) (ret := (some .int)) (by decide) rfl ?_
  intro p e s m args below meth c s₁ B hml hv
  obtain ⟨rfl, hE, hP⟩ := hv
  have hx := B.exec
  have hb := B.bytes
  have hr := B.returns
  have hts := atoms_spec (ws := vs_lost) B.pre
  have hown : s.vm.findClass RX8 = some m.cls := findClass_of_methodNamed B.named
  have hlocks := B.notSynchronized
  have hK := hE.2
  have hA : True := trivial
  have hS : va_S (fun _ => False) s.heap s.heap [] := va_S.rf
  have hl := lv_entry ([.ref (r 0)]) (n := 3) (Nat.le_of_ble_eq_true rfl)
  rw [lg_entry_eq]
  generalize (lg_sl ([.ref (r 0)]) ++ List.replicate (3 - (lg_sl ([.ref (r 0)])).length) Slot.unset).toArray = ls at hl ⊢
  have hl : lv_has ls 3 [(0, .ref (r 0))] := hl
  refine lv_iconst (v := 0) hx hb dX8_lost_0 (by decide) ?_
  refine lv_istore_n (lv' := [(1, .int 0), (0, .ref (r 0))]) hx hb dX8_lost_1 rfl hl (by decide) rfl (fun ls hl => ?_)
  refine lv_iconst (v := 0) hx hb dX8_lost_2 (by decide) ?_
  refine lv_istore_n (lv' := [(2, .int 0), (1, .int 0), (0, .ref (r 0))]) hx hb dX8_lost_3 rfl hl (by decide) rfl (fun ls hl => ?_)
  refine lv_iload_n hx hb dX8_lost_4 rfl (lv_at hl 0 rfl) ?_
  refine lv_aload_n hx hb dX8_lost_5 rfl (lv_at hl 2 rfl) ?_
  refine va_get (D := (dC, dI)) (ci := 8) (v := .ref (r 16)) (C := RX8) (T := TX8) (N := 48) hx hb hts in_lost_X8 hown hK hP 0 rfl rfl 16 (by decide) (hts (.fieldLink RX8 56 "DepotMarchModel" "parties" "[I") (by decide +kernel)) (fun _ h9 => h9) rfl dX8_lost_6 ?_
  refine lv_iconst (v := 0) hx hb dX8_lost_9 (by decide) ?_
  refine va_iald hx hb hK hP 1 0 rfl rfl (vpd rfl) dX8_lost_10 ?_
  refine lv_topi (fun x1 ex1 => ?_)
  obtain rfl : x1 = 0 := ex1.trans hp
  refine lv_icmp_ge (tgt := 38) hx hb dX8_lost_11 (by decide) (fun _ => ?_) (fun c9 => absurd (by decide) c9)
  refine lv_iload_n hx hb dX8_lost_38 rfl (lv_at hl 1 rfl) ?_
  exact W.iret (v := 0) hx hb hr (fun t ht hW => ⟨0, rfl, rfl, ht⟩) (fun q h => by cases h) dX8_lost_39

def vs_stored : List Cond := [.code yX8_stored cX8_stored 3 (some .int), .fieldLink RX8 40 "DepotMarchModel" "count" "[I"] ++ (wsX80)
theorem in_stored_X8 : ∀ w ∈ u_ws RX8 TX8 48, w ∈ vs_stored := fun w h => List.mem_append_right _ (h)
set_option maxHeartbeats 4000000 in
set_option maxRecDepth 100000 in
theorem c_stored (l : Launch) (dC : Nat → ClassId) (dI : Nat → Nat → Nat) (cI cZ cB cJ cP cW : ClassId) (r : Nat → Nat) (fc : Nat → Int32) (hc : ∀ j, j < 16 → fc j = 0) : Met l yX8_stored vs_stored ({ frames := 1, cells := 0, slots := 0, locals := 60 }) (va_Pc [.ref (r 0)] (fun U => EV dC dI cI cZ cB cJ cP cW U ∧ va_P (dC, dI) vwCl [((r 0), .inr (8, [.int 0, .ref (r 1), .int 0, .ref (r 3), .ref (r 4), .ref (r 5), .ref (r 6), .ref (r 7), .ref (r 8), .ref (r 9), .ref (r 10), .ref (r 11), .ref (r 12), .ref (r 13), .ref (r 14), .ref (r 15), .ref (r 16), .ref (r 17), .ref (r 18), .ref (r 19), .ref (r 20), .ref (r 21), .ref (r 22), .ref (r 23), .ref (r 24), .ref (r 25), .ref (r 26), .ref (r 27), .ref (r 28), .ref (r 29), .int 0, .int 0, .int 0, .int 0, .int 0, .int 0, .int (-1), .int 0, .int 0, .int 0, .int 0, .int 0, .int 0, .ref (r 43), .ref (r 44), .ref (r 45), .int 0, .ref (r 47)])), ((r 11), .inl (cI, 110, .inl fc))] U.heap)) (vp_Si (fun r => r = 0)) 0 0 (fun _ => False) := by
  refine Met.ofW (cc := cX8_stored) (maxL := 3) (ret := (some .int)) (by decide) rfl ?_
  intro p e s m args below meth c s₁ B hml hv
  obtain ⟨rfl, hE, hP⟩ := hv
  have hx := B.exec
  have hb := B.bytes
  have hr := B.returns
  have hts := atoms_spec (ws := vs_stored) B.pre
  have hown : s.vm.findClass RX8 = some m.cls := findClass_of_methodNamed B.named
  have hlocks := B.notSynchronized
  have hK := hE.2
  have hA : True := trivial
  have hS : va_S (fun _ => False) s.heap s.heap [] := va_S.rf
  have hl := lv_entry ([.ref (r 0)]) (n := 3) (Nat.le_of_ble_eq_true rfl)
  rw [lg_entry_eq]
  generalize (lg_sl ([.ref (r 0)]) ++ List.replicate (3 - (lg_sl ([.ref (r 0)])).length) Slot.unset).toArray = ls at hl ⊢
  have hl : lv_has ls 3 [(0, .ref (r 0))] := hl
  refine lv_iconst (v := 0) hx hb dX8_stored_0 (by decide) ?_
  refine lv_istore_n (lv' := [(1, .int 0), (0, .ref (r 0))]) hx hb dX8_stored_1 rfl hl (by decide) rfl (fun ls hl => ?_)
  refine lv_iconst (v := 0) hx hb dX8_stored_2 (by decide) ?_
  refine lv_istore_n (lv' := [(2, .int 0), (1, .int 0), (0, .ref (r 0))]) hx hb dX8_stored_3 rfl hl (by decide) rfl (fun ls hl => ?_)
  have hl := lv_sub hl [2, 1, 0] rfl
  refine W_loop (σ := Nat) (fun x9 => match x9 with | k => 16 - k) (fun x9 H1 locs ls => match x9 with | k => (k ≤ 16) ∧ H1 = s.heap ∧ locs = [] ∧ lv_has ls 3 [(0, .ref (r 0)), (1, .int 0), (2, .int (nI k))]) (fun x9 H1 locs ls hI9 ih => ?_) 0 _ _ _ ⟨Nat.zero_le _, rfl, rfl, hl⟩
  obtain ⟨k, e9⟩ : ∃ z, z = x9 := ⟨_, rfl⟩; subst e9
  dsimp only at hI9
  obtain ⟨hinv, rfl, rfl, hl⟩ := hI9
  refine lv_iload_n hx hb dX8_stored_4 rfl (lv_at hl 2 rfl) ?_
  refine lv_bipush (v := 16) hx hb dX8_stored_5 (by decide) ?_
  refine lv_icmp_ge (tgt := 25) hx hb dX8_stored_7 (by decide) (fun c2 => ?_) (fun c2 => ?_)
  · refine lv_iload_n hx hb dX8_stored_25 rfl (lv_at hl 1 rfl) ?_
    exact W.iret (v := 0) hx hb hr (fun t ht hW => ⟨0, rfl, rfl, ht⟩) (fun q h => by cases h) dX8_stored_26
  · have hk : k < 16 := Nat.lt_of_not_le (fun h => absurd (nI_le (a := 16) h (by omega)) c2)
    refine lv_iload_n hx hb dX8_stored_10 rfl (lv_at hl 1 rfl) ?_
    refine lv_aload_n hx hb dX8_stored_11 rfl (lv_at hl 0 rfl) ?_
    refine va_get (D := (dC, dI)) (ci := 8) (v := .ref (r 11)) (C := RX8) (T := TX8) (N := 48) hx hb hts in_stored_X8 hown hK hP 0 rfl rfl 11 (by decide) (hts (.fieldLink RX8 40 "DepotMarchModel" "count" "[I") (by decide +kernel)) (fun _ h9 => h9) rfl dX8_stored_12 ?_
    refine lv_iload_n hx hb dX8_stored_15 rfl (lv_at hl 2 rfl) ?_
    refine va_iald hx hb hK hP 1 0 rfl rfl (vp_in_nI (N := 110) (by omega) (by decide)) dX8_stored_16 ?_
    refine lv_topi (fun x3 ex3 => ?_)
    obtain rfl : x3 = 0 := ex3.trans (by rw [nI_clamp (by omega)]; exact hc k hk)
    refine lv_iadd hx hb dX8_stored_17 ?_
    refine lv_topi (fun x4 ex4 => ?_)
    obtain rfl : x4 = 0 := ex4.trans (by decide)
    refine lv_istore_n (lv' := [(1, .int 0), (0, .ref (r 0)), (2, .int (nI k))]) hx hb dX8_stored_18 rfl hl (by decide) rfl (fun ls hl => ?_)
    refine lv_iinc (v := (nI (k + 1))) (lv' := [(2, .int (nI (k + 1))), (1, .int 0), (0, .ref (r 0))]) hx hb dX8_stored_19 hl (k := 2) rfl (nI_1 k) (by decide) rfl (fun ls hl => ?_)
    refine lv_goto (tgt := 4) hx hb dX8_stored_22 (by decide) ?_
    exact ih (k + 1) _ _ _ ⟨hk, rfl, rfl, lv_sub hl [2, 1, 0] rfl⟩ (by show 16 - (k + 1) < 16 - k; omega)

def vs_moveInts : List Cond := [.code yX8_moveInts cX8_moveInts 5 none]
set_option maxHeartbeats 4000000 in
set_option maxRecDepth 100000 in
theorem c_moveInts (l : Launch) (dC : Nat → ClassId) (dI : Nat → Nat → Nat) (cI cZ cB cJ cP cW : ClassId) (a : Nat) (N : Nat) (n : Nat) (fr : Nat) (to : Nat) (f : Nat → Int32) (sz : Nat) (hN : N < 2 ^ 31) (h1 : n * fr + n ≤ N) (h2 : n * to + n ≤ N) (h3 : n * fr + n ≤ n * to ∨ n * to + n ≤ n * fr) : Met l yX8_moveInts vs_moveInts ({ frames := 1, cells := 0, slots := 0, locals := 60 }) (va_Pc [.ref a, .int (nI n), .int (nI fr), .int (nI to)] (fun U => U.heap.size = sz ∧ EV dC dI cI cZ cB cJ cP cW U ∧ va_P (dC, dI) vwCl [(a, .inl (cI, N, .inl f))] U.heap ∧ va_D (fun _ => True) [(a, .inl (cI, N, .inl f))])) (va_Qv (fun (u : Nat → Int32) => (∀ j, j < n * to → u j = f j) ∧ (∀ j, j < n → u (n * to + j) = f (n * fr + j))) (fun u t => va_P (dC, dI) vwCl [(a, .inl (cI, N, .inl u))] t.heap ∧ va_D (va_A [(a, .inl (cI, N, .inl f))] sz) [(a, .inl (cI, N, .inl u))]) (va_A [(a, .inl (cI, N, .inl f))] sz)) 0 0 (va_A [(a, .inl (cI, N, .inl f))] sz) := by
  refine Met.ofW (cc := cX8_moveInts) (maxL := 5) (ret := none) (by decide) rfl ?_
  intro p e s m args below meth c s₁ B hml hv
  obtain ⟨rfl, hsz, hE, hP, hD0⟩ := hv
  have hx := B.exec
  have hb := B.bytes
  have hr := B.returns
  have hts := atoms_spec (ws := vs_moveInts) B.pre
  have hown : s.vm.findClass RX8 = some m.cls := findClass_of_methodNamed B.named
  have hlocks := B.notSynchronized
  have hK := hE.2
  subst hsz
  have hD := hD0.self (sz := s.heap.size)
  generalize hAe : va_A [(a, .inl (cI, N, .inl f))] s.heap.size = A at hD ⊢
  have hA : ∀ q : Nat, s.heap.size ≤ q → A q := fun q h => by rw [← hAe]; exact Or.inr h
  have hS : va_S A s.heap s.heap [] := va_S.rf
  have hl := lv_entry ([.ref a, .int (nI n), .int (nI fr), .int (nI to)]) (n := 5) (Nat.le_of_ble_eq_true rfl)
  rw [lg_entry_eq]
  generalize (lg_sl ([.ref a, .int (nI n), .int (nI fr), .int (nI to)]) ++ List.replicate (5 - (lg_sl ([.ref a, .int (nI n), .int (nI fr), .int (nI to)])).length) Slot.unset).toArray = ls at hl ⊢
  have hl : lv_has ls 5 [(0, .ref a), (1, .int (nI n)), (2, .int (nI fr)), (3, .int (nI to))] := hl
  refine lv_iconst (v := 0) hx hb dX8_moveInts_0 (by decide) ?_
  refine lv_istore (lv' := [(4, .int 0), (0, .ref a), (1, .int (nI n)), (2, .int (nI fr)), (3, .int (nI to))]) hx hb dX8_moveInts_1 hl (by decide) rfl (fun ls hl => ?_)
  have hl := lv_sub hl [1, 2, 3, 4, 0] rfl
  refine W_loop (σ := Nat × (Nat → Int32)) (fun x9 => match x9 with | (k, g) => n - k) (fun x9 H1 locs ls => match x9 with | (k, g) => (k ≤ n ∧ (∀ j, (j < n * to ∨ n * to + k ≤ j) → g j = f j) ∧ ∀ j, j < k → g (n * to + j) = f (n * fr + j)) ∧ va_P (dC, dI) vwCl [(a, .inl (cI, N, .inl g))] H1 ∧ va_D A [(a, .inl (cI, N, .inl g))] ∧ va_S A s.heap H1 locs ∧ lv_has ls 5 [(0, .ref a), (1, .int (nI n)), (2, .int (nI fr)), (3, .int (nI to)), (4, .int (nI k))]) (fun x9 H1 locs ls hI9 ih => ?_) (0, f) _ _ _ ⟨⟨Nat.zero_le _, fun _ _ => rfl, fun j hj => absurd hj (Nat.not_lt_zero j)⟩, hP.sub [0] rfl, hD.sub [0] (by decide) rfl, hS, hl⟩
  obtain ⟨k, g⟩ := x9
  dsimp only at hI9
  obtain ⟨hinv, hP, hD, hS, hl⟩ := hI9
  refine lv_iload hx hb dX8_moveInts_3 (lv_at hl 4 rfl) ?_
  refine lv_iload_n hx hb dX8_moveInts_5 rfl (lv_at hl 1 rfl) ?_
  refine lv_icmp_ge (tgt := 31) hx hb dX8_moveInts_6 (by decide) (fun c2 => ?_) (fun c2 => ?_)
  · have hkn : k = n := Nat.le_antisymm hinv.1 (Nat.le_of_not_lt (fun h => absurd c2 (nI_ge h (by omega))))
    have hP9 := hP.sub (ws' := [(a, .inl (cI, N, .inl g))]) [0] rfl
    have hD9 := hD.sub (ws' := [(a, .inl (cI, N, .inl g))]) [0] (by decide) rfl
    refine W.widen (k := 0) (n := 0) (by decide) (by decide) ?_
    exact W.vret hx hb hr (fun t ht hW => ⟨⟨g, rfl, (⟨fun j hj => hinv.2.1 j (Or.inl hj), fun j hj => hinv.2.2 j (by omega)⟩), by rw [ht]; exact hP9, hD9⟩, hS.F ht⟩) hS.2.2 dX8_moveInts_31
  · have hk : k < n := Nat.lt_of_not_le (fun h => absurd (nI_le h (by omega)) c2)
    refine lv_aload_n hx hb dX8_moveInts_9 rfl (lv_at hl 0 rfl) ?_
    refine lv_iload_n hx hb dX8_moveInts_10 rfl (lv_at hl 1 rfl) ?_
    refine lv_iload_n hx hb dX8_moveInts_11 rfl (lv_at hl 3 rfl) ?_
    refine lv_imul hx hb dX8_moveInts_12 ?_
    refine lv_topi (fun x3 ex3 => ?_)
    obtain rfl : x3 = (nI (n * to)) := ex3.trans (pk_mul n to)
    refine lv_iload hx hb dX8_moveInts_13 (lv_at hl 4 rfl) ?_
    refine lv_iadd hx hb dX8_moveInts_15 ?_
    refine lv_topi (fun x4 ex4 => ?_)
    obtain rfl : x4 = (nI (n * to + k)) := ex4.trans (nI_add _ _)
    refine lv_aload_n hx hb dX8_moveInts_16 rfl (lv_at hl 0 rfl) ?_
    refine lv_iload_n hx hb dX8_moveInts_17 rfl (lv_at hl 1 rfl) ?_
    refine lv_iload_n hx hb dX8_moveInts_18 rfl (lv_at hl 2 rfl) ?_
    refine lv_imul hx hb dX8_moveInts_19 ?_
    refine lv_topi (fun x5 ex5 => ?_)
    obtain rfl : x5 = (nI (n * fr)) := ex5.trans (pk_mul n fr)
    refine lv_iload hx hb dX8_moveInts_20 (lv_at hl 4 rfl) ?_
    refine lv_iadd hx hb dX8_moveInts_22 ?_
    refine lv_topi (fun x6 ex6 => ?_)
    obtain rfl : x6 = (nI (n * fr + k)) := ex6.trans (nI_add _ _)
    refine va_iald hx hb hK hP 0 0 rfl rfl (vp_in_nI (by omega) hN) dX8_moveInts_23 ?_
    refine lv_topi (fun x7 ex7 => ?_)
    obtain rfl : x7 = (f (n * fr + k)) := ex7.trans (by rw [nI_clamp (by omega)]; exact hinv.2.1 _ (by omega))
    refine va_iast hx hb hK hP hD hS 0 0 rfl rfl (vp_in_nI (by omega) hN) dX8_moveInts_24 (fun H8 locs hP hD hS => ?_)
    have hP : va_P (dC, dI) vwCl [(a, .inl (cI, N, .inl (upd g (nI (n * to + k)).toNatClampNeg (f (n * fr + k)))))] H8 := hP
    have hD : va_D A [(a, .inl (cI, N, .inl (upd g (nI (n * to + k)).toNatClampNeg (f (n * fr + k)))))] := hD
    refine lv_iinc (v := (nI (k + 1))) (lv' := [(4, .int (nI (k + 1))), (0, .ref a), (1, .int (nI n)), (2, .int (nI fr)), (3, .int (nI to))]) hx hb dX8_moveInts_25 hl (k := 4) rfl (nI_1 k) (by decide) rfl (fun ls hl => ?_)
    refine lv_goto (tgt := 3) hx hb dX8_moveInts_28 (by decide) ?_
    exact ih (k + 1, (upd g (nI (n * to + k)).toNatClampNeg (f (n * fr + k)))) _ _ _ ⟨⟨hk, mv_step (by omega) hinv.2.1 hinv.2.2⟩, hP.sub [0] rfl, hD.sub [0] (by decide) rfl, hS, lv_sub hl [1, 2, 3, 4, 0] rfl⟩ (by show n - (k + 1) < n - k; omega)

def vs_m_copy : List Cond := [.code yX8_copy cX8_copy 5 none, .fieldLink RX8 25 "DepotMarchModel" "rations" "[I", .code yX8_moveInts cX8_moveInts 5 none, .methodLink RX8 129 yX8_moveInts, .static yX8_moveInts, .initialized RX8, .fieldLink RX8 28 "DepotMarchModel" "lots" "[I", .fieldLink RX8 31 "DepotMarchModel" "lotSize" "[I", .fieldLink RX8 34 "DepotMarchModel" "first" "[I", .fieldLink RX8 37 "DepotMarchModel" "latest" "[I", .fieldLink RX8 40 "DepotMarchModel" "count" "[I", .fieldLink RX8 43 "DepotMarchModel" "eaten" "[I", .fieldLink RX8 46 "DepotMarchModel" "day" "[I", .fieldLink RX8 53 "DepotMarchModel" "letter" "[I", .fieldLink RX8 56 "DepotMarchModel" "parties" "[I", .fieldLink RX8 59 "DepotMarchModel" "men" "[I", .fieldLink RX8 62 "DepotMarchModel" "carry" "[I", .fieldLink RX8 65 "DepotMarchModel" "campOf" "[I", .fieldLink RX8 68 "DepotMarchModel" "hunger" "[I", .fieldLink RX8 71 "DepotMarchModel" "rested" "[I", .fieldLink RX8 74 "DepotMarchModel" "counted" "[I", .fieldLink RX8 77 "DepotMarchModel" "at" "[I", .fieldLink RX8 80 "DepotMarchModel" "steps" "[I", .fieldLink RX8 83 "DepotMarchModel" "names" "[I", .fieldLink RX8 92 "DepotMarchModel" "lines" "[I", .fieldLink RX8 95 "DepotMarchModel" "book" "[I", .fieldLink RX8 86 "DepotMarchModel" "op" "[B", .fieldLink RX8 89 "DepotMarchModel" "val" "[I", .fieldLink RX8 49 "DepotMarchModel" "storms" "[Z"] ++ (wsX80)
theorem in_m_copy_X8 : ∀ w ∈ u_ws RX8 TX8 48, w ∈ vs_m_copy := fun w h => List.mem_append_right _ (h)
set_option maxRecDepth 20000 in
theorem gg_m_copy_moveInts : GoodIn vs_m_copy vs_moveInts := goodIn_r _ [2] (by decide +kernel) (by decide +kernel)
set_option maxRecDepth 20000 in
theorem g129_m_copy_moveInts : GoodIn vs_m_copy (va_wsS RX8 129 yX8_moveInts vs_moveInts) := goodIn_app (goodIn_of _ (by decide +kernel)) gg_m_copy_moveInts
set_option maxHeartbeats 4000000 in
set_option maxRecDepth 100000 in
theorem c_m_copy (l : Launch) (dC : Nat → ClassId) (dI : Nat → Nat → Nat) (cI cZ cB cJ cP cW : ClassId) (r : Nat → Nat) (F : Nat → Nat → Int32) (fr : Nat) (to : Nat) (sz : Nat) (hfr : fr ≤ 4) (hto : to ≤ 4) (hne : fr < to ∨ to < fr) (h0 : F 6 fr = 0) : Met l yX8_copy vs_m_copy ({ frames := 3, cells := 0, slots := 0, locals := 180 }) (va_Pc [.ref (r 0), .int (nI fr), .int (nI to)] (fun U => U.heap.size = sz ∧ EV dC dI cI cZ cB cJ cP cW U ∧ va_P (dC, dI) vwCl [((r 0), .inr (8, [.int 0, .ref (r 1), .int 0, .ref (r 3), .ref (r 4), .ref (r 5), .ref (r 6), .ref (r 7), .ref (r 8), .ref (r 9), .ref (r 10), .ref (r 11), .ref (r 12), .ref (r 13), .ref (r 14), .ref (r 15), .ref (r 16), .ref (r 17), .ref (r 18), .ref (r 19), .ref (r 20), .ref (r 21), .ref (r 22), .ref (r 23), .ref (r 24), .ref (r 25), .ref (r 26), .ref (r 27), .ref (r 28), .ref (r 29), .int 0, .int 0, .int 0, .int 0, .int 0, .int 0, .int (-1), .int 0, .int 0, .int 0, .int 0, .int 0, .int 0, .ref (r 43), .ref (r 44), .ref (r 45), .int 0, .ref (r 47)])), ((r 14), .inl (cZ, 2000, .inl (F 14))), ((r 6), .inl (cI, 5, .inl (F 6))), ((r 7), .inl (cI, 5, .inl (F 7))), ((r 8), .inl (cI, 100, .inl (F 8))), ((r 9), .inl (cI, 110, .inl (F 9))), ((r 10), .inl (cI, 110, .inl (F 10))), ((r 11), .inl (cI, 110, .inl (F 11))), ((r 12), .inl (cI, 600, .inl (F 12))), ((r 13), .inl (cI, 5, .inl (F 13))), ((r 15), .inl (cI, 80, .inl (F 15))), ((r 16), .inl (cI, 5, .inl (F 16))), ((r 17), .inl (cI, 30, .inl (F 17))), ((r 18), .inl (cI, 30, .inl (F 18))), ((r 19), .inl (cI, 30, .inl (F 19))), ((r 20), .inl (cI, 30, .inl (F 20))), ((r 21), .inl (cI, 30, .inl (F 21))), ((r 22), .inl (cI, 30, .inl (F 22))), ((r 23), .inl (cI, 30, .inl (F 23))), ((r 24), .inl (cI, 30, .inl (F 24))), ((r 25), .inl (cI, 780, .inl (F 25))), ((r 28), .inl (cI, 5, .inl (F 28))), ((r 29), .inl (cI, 18000, .inl (F 29))), ((r 26), .inl (cB, 27000, .inl (F 26))), ((r 27), .inl (cI, 27000, .inl (F 27)))] U.heap ∧ va_D (fun _ => True) [((r 0), .inr (8, [.int 0, .ref (r 1), .int 0, .ref (r 3), .ref (r 4), .ref (r 5), .ref (r 6), .ref (r 7), .ref (r 8), .ref (r 9), .ref (r 10), .ref (r 11), .ref (r 12), .ref (r 13), .ref (r 14), .ref (r 15), .ref (r 16), .ref (r 17), .ref (r 18), .ref (r 19), .ref (r 20), .ref (r 21), .ref (r 22), .ref (r 23), .ref (r 24), .ref (r 25), .ref (r 26), .ref (r 27), .ref (r 28), .ref (r 29), .int 0, .int 0, .int 0, .int 0, .int 0, .int 0, .int (-1), .int 0, .int 0, .int 0, .int 0, .int 0, .int 0, .ref (r 43), .ref (r 44), .ref (r 45), .int 0, .ref (r 47)])), ((r 14), .inl (cZ, 2000, .inl (F 14))), ((r 6), .inl (cI, 5, .inl (F 6))), ((r 7), .inl (cI, 5, .inl (F 7))), ((r 8), .inl (cI, 100, .inl (F 8))), ((r 9), .inl (cI, 110, .inl (F 9))), ((r 10), .inl (cI, 110, .inl (F 10))), ((r 11), .inl (cI, 110, .inl (F 11))), ((r 12), .inl (cI, 600, .inl (F 12))), ((r 13), .inl (cI, 5, .inl (F 13))), ((r 15), .inl (cI, 80, .inl (F 15))), ((r 16), .inl (cI, 5, .inl (F 16))), ((r 17), .inl (cI, 30, .inl (F 17))), ((r 18), .inl (cI, 30, .inl (F 18))), ((r 19), .inl (cI, 30, .inl (F 19))), ((r 20), .inl (cI, 30, .inl (F 20))), ((r 21), .inl (cI, 30, .inl (F 21))), ((r 22), .inl (cI, 30, .inl (F 22))), ((r 23), .inl (cI, 30, .inl (F 23))), ((r 24), .inl (cI, 30, .inl (F 24))), ((r 25), .inl (cI, 780, .inl (F 25))), ((r 28), .inl (cI, 5, .inl (F 28))), ((r 29), .inl (cI, 18000, .inl (F 29))), ((r 26), .inl (cB, 27000, .inl (F 26))), ((r 27), .inl (cI, 27000, .inl (F 27)))])) (va_Qv (fun (u : Nat → Nat → Int32) => (∀ j, j < to → u 6 j = F 6 j) ∧ u 6 to = F 6 fr ∧ (∀ j, j < to → u 13 j = F 13 j) ∧ (∀ j, j < to → u 16 j = F 16 j) ∧ (∀ j, j < 22 * to → u 11 j = F 11 j)) (fun u t => va_P (dC, dI) vwCl [((r 0), .inr (8, [.int 0, .ref (r 1), .int 0, .ref (r 3), .ref (r 4), .ref (r 5), .ref (r 6), .ref (r 7), .ref (r 8), .ref (r 9), .ref (r 10), .ref (r 11), .ref (r 12), .ref (r 13), .ref (r 14), .ref (r 15), .ref (r 16), .ref (r 17), .ref (r 18), .ref (r 19), .ref (r 20), .ref (r 21), .ref (r 22), .ref (r 23), .ref (r 24), .ref (r 25), .ref (r 26), .ref (r 27), .ref (r 28), .ref (r 29), .int 0, .int 0, .int 0, .int 0, .int 0, .int 0, .int (-1), .int 0, .int 0, .int 0, .int 0, .int 0, .int 0, .ref (r 43), .ref (r 44), .ref (r 45), .int 0, .ref (r 47)])), ((r 14), .inl (cZ, 2000, .inl (u 14))), ((r 6), .inl (cI, 5, .inl (u 6))), ((r 7), .inl (cI, 5, .inl (u 7))), ((r 8), .inl (cI, 100, .inl (u 8))), ((r 9), .inl (cI, 110, .inl (u 9))), ((r 10), .inl (cI, 110, .inl (u 10))), ((r 11), .inl (cI, 110, .inl (u 11))), ((r 12), .inl (cI, 600, .inl (u 12))), ((r 13), .inl (cI, 5, .inl (u 13))), ((r 15), .inl (cI, 80, .inl (u 15))), ((r 16), .inl (cI, 5, .inl (u 16))), ((r 17), .inl (cI, 30, .inl (u 17))), ((r 18), .inl (cI, 30, .inl (u 18))), ((r 19), .inl (cI, 30, .inl (u 19))), ((r 20), .inl (cI, 30, .inl (u 20))), ((r 21), .inl (cI, 30, .inl (u 21))), ((r 22), .inl (cI, 30, .inl (u 22))), ((r 23), .inl (cI, 30, .inl (u 23))), ((r 24), .inl (cI, 30, .inl (u 24))), ((r 25), .inl (cI, 780, .inl (u 25))), ((r 28), .inl (cI, 5, .inl (u 28))), ((r 29), .inl (cI, 18000, .inl (u 29))), ((r 26), .inl (cB, 27000, .inl (u 26))), ((r 27), .inl (cI, 27000, .inl (u 27)))] t.heap ∧ va_D (va_A [((r 0), .inr (8, [.int 0, .ref (r 1), .int 0, .ref (r 3), .ref (r 4), .ref (r 5), .ref (r 6), .ref (r 7), .ref (r 8), .ref (r 9), .ref (r 10), .ref (r 11), .ref (r 12), .ref (r 13), .ref (r 14), .ref (r 15), .ref (r 16), .ref (r 17), .ref (r 18), .ref (r 19), .ref (r 20), .ref (r 21), .ref (r 22), .ref (r 23), .ref (r 24), .ref (r 25), .ref (r 26), .ref (r 27), .ref (r 28), .ref (r 29), .int 0, .int 0, .int 0, .int 0, .int 0, .int 0, .int (-1), .int 0, .int 0, .int 0, .int 0, .int 0, .int 0, .ref (r 43), .ref (r 44), .ref (r 45), .int 0, .ref (r 47)])), ((r 14), .inl (cZ, 2000, .inl (F 14))), ((r 6), .inl (cI, 5, .inl (F 6))), ((r 7), .inl (cI, 5, .inl (F 7))), ((r 8), .inl (cI, 100, .inl (F 8))), ((r 9), .inl (cI, 110, .inl (F 9))), ((r 10), .inl (cI, 110, .inl (F 10))), ((r 11), .inl (cI, 110, .inl (F 11))), ((r 12), .inl (cI, 600, .inl (F 12))), ((r 13), .inl (cI, 5, .inl (F 13))), ((r 15), .inl (cI, 80, .inl (F 15))), ((r 16), .inl (cI, 5, .inl (F 16))), ((r 17), .inl (cI, 30, .inl (F 17))), ((r 18), .inl (cI, 30, .inl (F 18))), ((r 19), .inl (cI, 30, .inl (F 19))), ((r 20), .inl (cI, 30, .inl (F 20))), ((r 21), .inl (cI, 30, .inl (F 21))), ((r 22), .inl (cI, 30, .inl (F 22))), ((r 23), .inl (cI, 30, .inl (F 23))), ((r 24), .inl (cI, 30, .inl (F 24))), ((r 25), .inl (cI, 780, .inl (F 25))), ((r 28), .inl (cI, 5, .inl (F 28))), ((r 29), .inl (cI, 18000, .inl (F 29))), ((r 26), .inl (cB, 27000, .inl (F 26))), ((r 27), .inl (cI, 27000, .inl (F 27)))] sz) [((r 0), .inr (8, [.int 0, .ref (r 1), .int 0, .ref (r 3), .ref (r 4), .ref (r 5), .ref (r 6), .ref (r 7), .ref (r 8), .ref (r 9), .ref (r 10), .ref (r 11), .ref (r 12), .ref (r 13), .ref (r 14), .ref (r 15), .ref (r 16), .ref (r 17), .ref (r 18), .ref (r 19), .ref (r 20), .ref (r 21), .ref (r 22), .ref (r 23), .ref (r 24), .ref (r 25), .ref (r 26), .ref (r 27), .ref (r 28), .ref (r 29), .int 0, .int 0, .int 0, .int 0, .int 0, .int 0, .int (-1), .int 0, .int 0, .int 0, .int 0, .int 0, .int 0, .ref (r 43), .ref (r 44), .ref (r 45), .int 0, .ref (r 47)])), ((r 14), .inl (cZ, 2000, .inl (u 14))), ((r 6), .inl (cI, 5, .inl (u 6))), ((r 7), .inl (cI, 5, .inl (u 7))), ((r 8), .inl (cI, 100, .inl (u 8))), ((r 9), .inl (cI, 110, .inl (u 9))), ((r 10), .inl (cI, 110, .inl (u 10))), ((r 11), .inl (cI, 110, .inl (u 11))), ((r 12), .inl (cI, 600, .inl (u 12))), ((r 13), .inl (cI, 5, .inl (u 13))), ((r 15), .inl (cI, 80, .inl (u 15))), ((r 16), .inl (cI, 5, .inl (u 16))), ((r 17), .inl (cI, 30, .inl (u 17))), ((r 18), .inl (cI, 30, .inl (u 18))), ((r 19), .inl (cI, 30, .inl (u 19))), ((r 20), .inl (cI, 30, .inl (u 20))), ((r 21), .inl (cI, 30, .inl (u 21))), ((r 22), .inl (cI, 30, .inl (u 22))), ((r 23), .inl (cI, 30, .inl (u 23))), ((r 24), .inl (cI, 30, .inl (u 24))), ((r 25), .inl (cI, 780, .inl (u 25))), ((r 28), .inl (cI, 5, .inl (u 28))), ((r 29), .inl (cI, 18000, .inl (u 29))), ((r 26), .inl (cB, 27000, .inl (u 26))), ((r 27), .inl (cI, 27000, .inl (u 27)))]) (va_A [((r 0), .inr (8, [.int 0, .ref (r 1), .int 0, .ref (r 3), .ref (r 4), .ref (r 5), .ref (r 6), .ref (r 7), .ref (r 8), .ref (r 9), .ref (r 10), .ref (r 11), .ref (r 12), .ref (r 13), .ref (r 14), .ref (r 15), .ref (r 16), .ref (r 17), .ref (r 18), .ref (r 19), .ref (r 20), .ref (r 21), .ref (r 22), .ref (r 23), .ref (r 24), .ref (r 25), .ref (r 26), .ref (r 27), .ref (r 28), .ref (r 29), .int 0, .int 0, .int 0, .int 0, .int 0, .int 0, .int (-1), .int 0, .int 0, .int 0, .int 0, .int 0, .int 0, .ref (r 43), .ref (r 44), .ref (r 45), .int 0, .ref (r 47)])), ((r 14), .inl (cZ, 2000, .inl (F 14))), ((r 6), .inl (cI, 5, .inl (F 6))), ((r 7), .inl (cI, 5, .inl (F 7))), ((r 8), .inl (cI, 100, .inl (F 8))), ((r 9), .inl (cI, 110, .inl (F 9))), ((r 10), .inl (cI, 110, .inl (F 10))), ((r 11), .inl (cI, 110, .inl (F 11))), ((r 12), .inl (cI, 600, .inl (F 12))), ((r 13), .inl (cI, 5, .inl (F 13))), ((r 15), .inl (cI, 80, .inl (F 15))), ((r 16), .inl (cI, 5, .inl (F 16))), ((r 17), .inl (cI, 30, .inl (F 17))), ((r 18), .inl (cI, 30, .inl (F 18))), ((r 19), .inl (cI, 30, .inl (F 19))), ((r 20), .inl (cI, 30, .inl (F 20))), ((r 21), .inl (cI, 30, .inl (F 21))), ((r 22), .inl (cI, 30, .inl (F 22))), ((r 23), .inl (cI, 30, .inl (F 23))), ((r 24), .inl (cI, 30, .inl (F 24))), ((r 25), .inl (cI, 780, .inl (F 25))), ((r 28), .inl (cI, 5, .inl (F 28))), ((r 29), .inl (cI, 18000, .inl (F 29))), ((r 26), .inl (cB, 27000, .inl (F 26))), ((r 27), .inl (cI, 27000, .inl (F 27)))] sz)) 0 0 (va_A [((r 0), .inr (8, [.int 0, .ref (r 1), .int 0, .ref (r 3), .ref (r 4), .ref (r 5), .ref (r 6), .ref (r 7), .ref (r 8), .ref (r 9), .ref (r 10), .ref (r 11), .ref (r 12), .ref (r 13), .ref (r 14), .ref (r 15), .ref (r 16), .ref (r 17), .ref (r 18), .ref (r 19), .ref (r 20), .ref (r 21), .ref (r 22), .ref (r 23), .ref (r 24), .ref (r 25), .ref (r 26), .ref (r 27), .ref (r 28), .ref (r 29), .int 0, .int 0, .int 0, .int 0, .int 0, .int 0, .int (-1), .int 0, .int 0, .int 0, .int 0, .int 0, .int 0, .ref (r 43), .ref (r 44), .ref (r 45), .int 0, .ref (r 47)])), ((r 14), .inl (cZ, 2000, .inl (F 14))), ((r 6), .inl (cI, 5, .inl (F 6))), ((r 7), .inl (cI, 5, .inl (F 7))), ((r 8), .inl (cI, 100, .inl (F 8))), ((r 9), .inl (cI, 110, .inl (F 9))), ((r 10), .inl (cI, 110, .inl (F 10))), ((r 11), .inl (cI, 110, .inl (F 11))), ((r 12), .inl (cI, 600, .inl (F 12))), ((r 13), .inl (cI, 5, .inl (F 13))), ((r 15), .inl (cI, 80, .inl (F 15))), ((r 16), .inl (cI, 5, .inl (F 16))), ((r 17), .inl (cI, 30, .inl (F 17))), ((r 18), .inl (cI, 30, .inl (F 18))), ((r 19), .inl (cI, 30, .inl (F 19))), ((r 20), .inl (cI, 30, .inl (F 20))), ((r 21), .inl (cI, 30, .inl (F 21))), ((r 22), .inl (cI, 30, .inl (F 22))), ((r 23), .inl (cI, 30, .inl (F 23))), ((r 24), .inl (cI, 30, .inl (F 24))), ((r 25), .inl (cI, 780, .inl (F 25))), ((r 28), .inl (cI, 5, .inl (F 28))), ((r 29), .inl (cI, 18000, .inl (F 29))), ((r 26), .inl (cB, 27000, .inl (F 26))), ((r 27), .inl (cI, 27000, .inl (F 27)))] sz) := by
  refine Met.ofW (cc := cX8_copy) (maxL := 5) (ret := none) (by decide) rfl ?_
  intro p e s m args below meth c s₁ B hml hv
  obtain ⟨rfl, hsz, hE, hP, hD0⟩ := hv
  have hx := B.exec
  have hb := B.bytes
  have hr := B.returns
  have hts := atoms_spec (ws := vs_m_copy) B.pre
  have hown : s.vm.findClass RX8 = some m.cls := findClass_of_methodNamed B.named
  have hlocks := B.notSynchronized
  have hK := hE.2
  subst hsz
  have hD := hD0.self (sz := s.heap.size)
  generalize hAe : va_A [((r 0), .inr (8, [.int 0, .ref (r 1), .int 0, .ref (r 3), .ref (r 4), .ref (r 5), .ref (r 6), .ref (r 7), .ref (r 8), .ref (r 9), .ref (r 10), .ref (r 11), .ref (r 12), .ref (r 13), .ref (r 14), .ref (r 15), .ref (r 16), .ref (r 17), .ref (r 18), .ref (r 19), .ref (r 20), .ref (r 21), .ref (r 22), .ref (r 23), .ref (r 24), .ref (r 25), .ref (r 26), .ref (r 27), .ref (r 28), .ref (r 29), .int 0, .int 0, .int 0, .int 0, .int 0, .int 0, .int (-1), .int 0, .int 0, .int 0, .int 0, .int 0, .int 0, .ref (r 43), .ref (r 44), .ref (r 45), .int 0, .ref (r 47)])), ((r 14), .inl (cZ, 2000, .inl (F 14))), ((r 6), .inl (cI, 5, .inl (F 6))), ((r 7), .inl (cI, 5, .inl (F 7))), ((r 8), .inl (cI, 100, .inl (F 8))), ((r 9), .inl (cI, 110, .inl (F 9))), ((r 10), .inl (cI, 110, .inl (F 10))), ((r 11), .inl (cI, 110, .inl (F 11))), ((r 12), .inl (cI, 600, .inl (F 12))), ((r 13), .inl (cI, 5, .inl (F 13))), ((r 15), .inl (cI, 80, .inl (F 15))), ((r 16), .inl (cI, 5, .inl (F 16))), ((r 17), .inl (cI, 30, .inl (F 17))), ((r 18), .inl (cI, 30, .inl (F 18))), ((r 19), .inl (cI, 30, .inl (F 19))), ((r 20), .inl (cI, 30, .inl (F 20))), ((r 21), .inl (cI, 30, .inl (F 21))), ((r 22), .inl (cI, 30, .inl (F 22))), ((r 23), .inl (cI, 30, .inl (F 23))), ((r 24), .inl (cI, 30, .inl (F 24))), ((r 25), .inl (cI, 780, .inl (F 25))), ((r 28), .inl (cI, 5, .inl (F 28))), ((r 29), .inl (cI, 18000, .inl (F 29))), ((r 26), .inl (cB, 27000, .inl (F 26))), ((r 27), .inl (cI, 27000, .inl (F 27)))] s.heap.size = A at hD ⊢
  have hA : ∀ q : Nat, s.heap.size ≤ q → A q := fun q h => by rw [← hAe]; exact Or.inr h
  have hS : va_S A s.heap s.heap [] := va_S.rf
  have hl := lv_entry ([.ref (r 0), .int (nI fr), .int (nI to)]) (n := 5) (Nat.le_of_ble_eq_true rfl)
  rw [lg_entry_eq]
  generalize (lg_sl ([.ref (r 0), .int (nI fr), .int (nI to)]) ++ List.replicate (5 - (lg_sl ([.ref (r 0), .int (nI fr), .int (nI to)])).length) Slot.unset).toArray = ls at hl ⊢
  have hl : lv_has ls 5 [(0, .ref (r 0)), (1, .int (nI fr)), (2, .int (nI to))] := hl
  refine lv_aload_n hx hb dX8_copy_0 rfl (lv_at hl 0 rfl) ?_
  refine va_get (D := (dC, dI)) (ci := 8) (v := .ref (r 6)) (C := RX8) (T := TX8) (N := 48) hx hb hts in_m_copy_X8 hown hK hP 0 rfl rfl 6 (by decide) (hts (.fieldLink RX8 25 "DepotMarchModel" "rations" "[I") (by decide +kernel)) (fun _ h9 => h9) rfl dX8_copy_1 ?_
  refine lv_iload_n hx hb dX8_copy_4 rfl (lv_at hl 1 rfl) ?_
  refine va_iald hx hb hK hP 2 0 rfl rfl (vp_in_nI (N := 5) (by omega) (by decide)) dX8_copy_5 ?_
  refine lv_topi (fun x1 ex1 => ?_)
  obtain rfl : x1 = 0 := ex1.trans (by rw [nI_clamp (by omega)]; exact h0)
  refine lv_istore_n (lv' := [(3, .int 0), (0, .ref (r 0)), (1, .int (nI fr)), (2, .int (nI to))]) hx hb dX8_copy_6 rfl hl (by decide) rfl (fun ls hl => ?_)
  refine lv_iconst (v := 0) hx hb dX8_copy_7 (by decide) ?_
  refine lv_istore (lv' := [(4, .int 0), (3, .int 0), (0, .ref (r 0)), (1, .int (nI fr)), (2, .int (nI to))]) hx hb dX8_copy_8 hl (by decide) rfl (fun ls hl => ?_)
  refine lv_iload hx hb dX8_copy_10 (lv_at hl 0 rfl) ?_
  refine lv_iload_n hx hb dX8_copy_12 rfl (lv_at hl 1 rfl) ?_
  refine lv_icmp_ge (tgt := 74) hx hb dX8_copy_13 (by decide) (fun _ => ?_) (fun c9 => absurd (by decide) c9)
  refine lv_iconst (v := 0) hx hb dX8_copy_74 (by decide) ?_
  refine lv_istore (lv' := [(4, .int 0), (3, .int 0), (0, .ref (r 0)), (1, .int (nI fr)), (2, .int (nI to))]) hx hb dX8_copy_75 hl (by decide) rfl (fun ls hl => ?_)
  have hl := lv_sub hl [2, 3, 4, 0] rfl
  refine W_loop (σ := Nat × (Nat → Int32)) (fun x9 => match x9 with | (k, g) => 400 - k) (fun x9 H3 locs ls => match x9 with | (k, g) => (k ≤ 400) ∧ va_P (dC, dI) vwCl [((r 0), .inr (8, [.int 0, .ref (r 1), .int 0, .ref (r 3), .ref (r 4), .ref (r 5), .ref (r 6), .ref (r 7), .ref (r 8), .ref (r 9), .ref (r 10), .ref (r 11), .ref (r 12), .ref (r 13), .ref (r 14), .ref (r 15), .ref (r 16), .ref (r 17), .ref (r 18), .ref (r 19), .ref (r 20), .ref (r 21), .ref (r 22), .ref (r 23), .ref (r 24), .ref (r 25), .ref (r 26), .ref (r 27), .ref (r 28), .ref (r 29), .int 0, .int 0, .int 0, .int 0, .int 0, .int 0, .int (-1), .int 0, .int 0, .int 0, .int 0, .int 0, .int 0, .ref (r 43), .ref (r 44), .ref (r 45), .int 0, .ref (r 47)])), ((r 14), .inl (cZ, 2000, .inl g)), ((r 6), .inl (cI, 5, .inl (F 6))), ((r 7), .inl (cI, 5, .inl (F 7))), ((r 8), .inl (cI, 100, .inl (F 8))), ((r 9), .inl (cI, 110, .inl (F 9))), ((r 10), .inl (cI, 110, .inl (F 10))), ((r 11), .inl (cI, 110, .inl (F 11))), ((r 12), .inl (cI, 600, .inl (F 12))), ((r 13), .inl (cI, 5, .inl (F 13))), ((r 15), .inl (cI, 80, .inl (F 15))), ((r 16), .inl (cI, 5, .inl (F 16))), ((r 17), .inl (cI, 30, .inl (F 17))), ((r 18), .inl (cI, 30, .inl (F 18))), ((r 19), .inl (cI, 30, .inl (F 19))), ((r 20), .inl (cI, 30, .inl (F 20))), ((r 21), .inl (cI, 30, .inl (F 21))), ((r 22), .inl (cI, 30, .inl (F 22))), ((r 23), .inl (cI, 30, .inl (F 23))), ((r 24), .inl (cI, 30, .inl (F 24))), ((r 25), .inl (cI, 780, .inl (F 25))), ((r 28), .inl (cI, 5, .inl (F 28))), ((r 29), .inl (cI, 18000, .inl (F 29))), ((r 26), .inl (cB, 27000, .inl (F 26))), ((r 27), .inl (cI, 27000, .inl (F 27)))] H3 ∧ va_D A [((r 0), .inr (8, [.int 0, .ref (r 1), .int 0, .ref (r 3), .ref (r 4), .ref (r 5), .ref (r 6), .ref (r 7), .ref (r 8), .ref (r 9), .ref (r 10), .ref (r 11), .ref (r 12), .ref (r 13), .ref (r 14), .ref (r 15), .ref (r 16), .ref (r 17), .ref (r 18), .ref (r 19), .ref (r 20), .ref (r 21), .ref (r 22), .ref (r 23), .ref (r 24), .ref (r 25), .ref (r 26), .ref (r 27), .ref (r 28), .ref (r 29), .int 0, .int 0, .int 0, .int 0, .int 0, .int 0, .int (-1), .int 0, .int 0, .int 0, .int 0, .int 0, .int 0, .ref (r 43), .ref (r 44), .ref (r 45), .int 0, .ref (r 47)])), ((r 14), .inl (cZ, 2000, .inl g)), ((r 6), .inl (cI, 5, .inl (F 6))), ((r 7), .inl (cI, 5, .inl (F 7))), ((r 8), .inl (cI, 100, .inl (F 8))), ((r 9), .inl (cI, 110, .inl (F 9))), ((r 10), .inl (cI, 110, .inl (F 10))), ((r 11), .inl (cI, 110, .inl (F 11))), ((r 12), .inl (cI, 600, .inl (F 12))), ((r 13), .inl (cI, 5, .inl (F 13))), ((r 15), .inl (cI, 80, .inl (F 15))), ((r 16), .inl (cI, 5, .inl (F 16))), ((r 17), .inl (cI, 30, .inl (F 17))), ((r 18), .inl (cI, 30, .inl (F 18))), ((r 19), .inl (cI, 30, .inl (F 19))), ((r 20), .inl (cI, 30, .inl (F 20))), ((r 21), .inl (cI, 30, .inl (F 21))), ((r 22), .inl (cI, 30, .inl (F 22))), ((r 23), .inl (cI, 30, .inl (F 23))), ((r 24), .inl (cI, 30, .inl (F 24))), ((r 25), .inl (cI, 780, .inl (F 25))), ((r 28), .inl (cI, 5, .inl (F 28))), ((r 29), .inl (cI, 18000, .inl (F 29))), ((r 26), .inl (cB, 27000, .inl (F 26))), ((r 27), .inl (cI, 27000, .inl (F 27)))] ∧ va_S A s.heap H3 locs ∧ lv_has ls 5 [(0, .ref (r 0)), (1, .int (nI fr)), (2, .int (nI to)), (4, .int (nI k))]) (fun x9 H3 locs ls hI9 ih => ?_) (0, F 14) _ _ _ ⟨Nat.zero_le _, hP.sub [0, 1, 2, 3, 4, 5, 6, 7, 8, 9, 10, 11, 12, 13, 14, 15, 16, 17, 18, 19, 20, 21, 22, 23, 24] rfl, hD.sub [0, 1, 2, 3, 4, 5, 6, 7, 8, 9, 10, 11, 12, 13, 14, 15, 16, 17, 18, 19, 20, 21, 22, 23, 24] (by decide) rfl, hS, hl⟩
  obtain ⟨k, g⟩ := x9
  dsimp only at hI9
  obtain ⟨hinv, hP, hD, hS, hl⟩ := hI9
  refine lv_iload hx hb dX8_copy_77 (lv_at hl 3 rfl) ?_
  refine lv_sipush (v := 400) hx hb dX8_copy_79 (by decide) ?_
  refine lv_icmp_ge (tgt := 117) hx hb dX8_copy_82 (by decide) (fun c4 => ?_) (fun c4 => ?_)
  · refine lv_aload_n hx hb dX8_copy_117 rfl (lv_at hl 0 rfl) ?_
    refine va_get (D := (dC, dI)) (ci := 8) (v := .ref (r 6)) (C := RX8) (T := TX8) (N := 48) hx hb hts in_m_copy_X8 hown hK hP 0 rfl rfl 6 (by decide) (hts (.fieldLink RX8 25 "DepotMarchModel" "rations" "[I") (by decide +kernel)) (fun _ h9 => h9) rfl dX8_copy_118 ?_
    refine lv_iconst (v := 1) hx hb dX8_copy_121 (by decide) ?_
    refine lv_iload_n hx hb dX8_copy_122 rfl (lv_at hl 1 rfl) ?_
    refine lv_iload_n hx hb dX8_copy_123 rfl (lv_at hl 2 rfl) ?_
    have hPc := hP.sub (ws' := [((r 6), .inl (cI, 5, .inl (F 6)))]) [2] rfl
    have hDc := hD.sub (ws' := [((r 6), .inl (cI, 5, .inl (F 6)))]) [2] (by decide) rfl
    have hFc := va_free (wc := [((r 6), .inl (cI, 5, .inl (F 6)))]) hD hS hA [2] rfl
    refine va_callv (va_runS (As := [.ref (r 6), .int 1, .int (nI fr), .int (nI to)]) (rest := []) ⟨hx, hb, hml, hown, hts⟩ ((c_moveInts l dC dI cI cZ cB cJ cP cW (r 6) 5 1 fr to (F 6) H3.size) (by decide) (by omega) (by omega) (by omega)) (va_cwS 4 hts g129_m_copy_moveInts rfl rfl rfl (by decide +kernel) ⟨Nat.le_of_ble_eq_true rfl, Nat.le_of_ble_eq_true rfl⟩) ⟨fbM, fun U hU hW => ⟨rfl, by rw [hU], hE.warm hW, by rw [hU]; exact hPc, hDc.weaken (fun _ _ _ _ => trivial)⟩⟩ rfl rfl hl.1 rfl (lv_room (Nat.le_of_ble_eq_true rfl)) dX8_copy_124 ⟨Nat.le_of_ble_eq_true rfl, Nat.le_of_ble_eq_true rfl⟩) hS (fun q _ h => hFc q h) hFc (fun u6 t H7 locs ht hvm hr5 hB hz1 hk1 hS => ?_)
    obtain ⟨hP1, hD1⟩ := hB
    rw [ht] at hP1
    obtain ⟨hP, hD⟩ := va_join (wr := [((r 0), .inr (8, [.int 0, .ref (r 1), .int 0, .ref (r 3), .ref (r 4), .ref (r 5), .ref (r 6), .ref (r 7), .ref (r 8), .ref (r 9), .ref (r 10), .ref (r 11), .ref (r 12), .ref (r 13), .ref (r 14), .ref (r 15), .ref (r 16), .ref (r 17), .ref (r 18), .ref (r 19), .ref (r 20), .ref (r 21), .ref (r 22), .ref (r 23), .ref (r 24), .ref (r 25), .ref (r 26), .ref (r 27), .ref (r 28), .ref (r 29), .int 0, .int 0, .int 0, .int 0, .int 0, .int 0, .int (-1), .int 0, .int 0, .int 0, .int 0, .int 0, .int 0, .ref (r 43), .ref (r 44), .ref (r 45), .int 0, .ref (r 47)])), ((r 14), .inl (cZ, 2000, .inl g)), ((r 7), .inl (cI, 5, .inl (F 7))), ((r 8), .inl (cI, 100, .inl (F 8))), ((r 9), .inl (cI, 110, .inl (F 9))), ((r 10), .inl (cI, 110, .inl (F 10))), ((r 11), .inl (cI, 110, .inl (F 11))), ((r 12), .inl (cI, 600, .inl (F 12))), ((r 13), .inl (cI, 5, .inl (F 13))), ((r 15), .inl (cI, 80, .inl (F 15))), ((r 16), .inl (cI, 5, .inl (F 16))), ((r 17), .inl (cI, 30, .inl (F 17))), ((r 18), .inl (cI, 30, .inl (F 18))), ((r 19), .inl (cI, 30, .inl (F 19))), ((r 20), .inl (cI, 30, .inl (F 20))), ((r 21), .inl (cI, 30, .inl (F 21))), ((r 22), .inl (cI, 30, .inl (F 22))), ((r 23), .inl (cI, 30, .inl (F 23))), ((r 24), .inl (cI, 30, .inl (F 24))), ((r 25), .inl (cI, 780, .inl (F 25))), ((r 28), .inl (cI, 5, .inl (F 28))), ((r 29), .inl (cI, 18000, .inl (F 29))), ((r 26), .inl (cB, 27000, .inl (F 26))), ((r 27), .inl (cI, 27000, .inl (F 27)))]) (w1 := [((r 6), .inl (cI, 5, .inl u6))]) hP hD [2] [0, 1, 3, 4, 5, 6, 7, 8, 9, 10, 11, 12, 13, 14, 15, 16, 17, 18, 19, 20, 21, 22, 23, 24] rfl rfl (by decide) (by decide) hk1 hFc hP1 hD1
    have hP : va_P (dC, dI) vwCl [((r 0), .inr (8, [.int 0, .ref (r 1), .int 0, .ref (r 3), .ref (r 4), .ref (r 5), .ref (r 6), .ref (r 7), .ref (r 8), .ref (r 9), .ref (r 10), .ref (r 11), .ref (r 12), .ref (r 13), .ref (r 14), .ref (r 15), .ref (r 16), .ref (r 17), .ref (r 18), .ref (r 19), .ref (r 20), .ref (r 21), .ref (r 22), .ref (r 23), .ref (r 24), .ref (r 25), .ref (r 26), .ref (r 27), .ref (r 28), .ref (r 29), .int 0, .int 0, .int 0, .int 0, .int 0, .int 0, .int (-1), .int 0, .int 0, .int 0, .int 0, .int 0, .int 0, .ref (r 43), .ref (r 44), .ref (r 45), .int 0, .ref (r 47)])), ((r 14), .inl (cZ, 2000, .inl g)), ((r 7), .inl (cI, 5, .inl (F 7))), ((r 8), .inl (cI, 100, .inl (F 8))), ((r 9), .inl (cI, 110, .inl (F 9))), ((r 10), .inl (cI, 110, .inl (F 10))), ((r 11), .inl (cI, 110, .inl (F 11))), ((r 12), .inl (cI, 600, .inl (F 12))), ((r 13), .inl (cI, 5, .inl (F 13))), ((r 15), .inl (cI, 80, .inl (F 15))), ((r 16), .inl (cI, 5, .inl (F 16))), ((r 17), .inl (cI, 30, .inl (F 17))), ((r 18), .inl (cI, 30, .inl (F 18))), ((r 19), .inl (cI, 30, .inl (F 19))), ((r 20), .inl (cI, 30, .inl (F 20))), ((r 21), .inl (cI, 30, .inl (F 21))), ((r 22), .inl (cI, 30, .inl (F 22))), ((r 23), .inl (cI, 30, .inl (F 23))), ((r 24), .inl (cI, 30, .inl (F 24))), ((r 25), .inl (cI, 780, .inl (F 25))), ((r 28), .inl (cI, 5, .inl (F 28))), ((r 29), .inl (cI, 18000, .inl (F 29))), ((r 26), .inl (cB, 27000, .inl (F 26))), ((r 27), .inl (cI, 27000, .inl (F 27))), ((r 6), .inl (cI, 5, .inl u6))] H7 := hP
    have hD : va_D A [((r 0), .inr (8, [.int 0, .ref (r 1), .int 0, .ref (r 3), .ref (r 4), .ref (r 5), .ref (r 6), .ref (r 7), .ref (r 8), .ref (r 9), .ref (r 10), .ref (r 11), .ref (r 12), .ref (r 13), .ref (r 14), .ref (r 15), .ref (r 16), .ref (r 17), .ref (r 18), .ref (r 19), .ref (r 20), .ref (r 21), .ref (r 22), .ref (r 23), .ref (r 24), .ref (r 25), .ref (r 26), .ref (r 27), .ref (r 28), .ref (r 29), .int 0, .int 0, .int 0, .int 0, .int 0, .int 0, .int (-1), .int 0, .int 0, .int 0, .int 0, .int 0, .int 0, .ref (r 43), .ref (r 44), .ref (r 45), .int 0, .ref (r 47)])), ((r 14), .inl (cZ, 2000, .inl g)), ((r 7), .inl (cI, 5, .inl (F 7))), ((r 8), .inl (cI, 100, .inl (F 8))), ((r 9), .inl (cI, 110, .inl (F 9))), ((r 10), .inl (cI, 110, .inl (F 10))), ((r 11), .inl (cI, 110, .inl (F 11))), ((r 12), .inl (cI, 600, .inl (F 12))), ((r 13), .inl (cI, 5, .inl (F 13))), ((r 15), .inl (cI, 80, .inl (F 15))), ((r 16), .inl (cI, 5, .inl (F 16))), ((r 17), .inl (cI, 30, .inl (F 17))), ((r 18), .inl (cI, 30, .inl (F 18))), ((r 19), .inl (cI, 30, .inl (F 19))), ((r 20), .inl (cI, 30, .inl (F 20))), ((r 21), .inl (cI, 30, .inl (F 21))), ((r 22), .inl (cI, 30, .inl (F 22))), ((r 23), .inl (cI, 30, .inl (F 23))), ((r 24), .inl (cI, 30, .inl (F 24))), ((r 25), .inl (cI, 780, .inl (F 25))), ((r 28), .inl (cI, 5, .inl (F 28))), ((r 29), .inl (cI, 18000, .inl (F 29))), ((r 26), .inl (cB, 27000, .inl (F 26))), ((r 27), .inl (cI, 27000, .inl (F 27))), ((r 6), .inl (cI, 5, .inl u6))] := hD
    refine lv_aload_n hx hb dX8_copy_127 rfl (lv_at hl 0 rfl) ?_
    refine va_get (D := (dC, dI)) (ci := 8) (v := .ref (r 7)) (C := RX8) (T := TX8) (N := 48) hx hb hts in_m_copy_X8 hown hK hP 0 rfl rfl 7 (by decide) (hts (.fieldLink RX8 28 "DepotMarchModel" "lots" "[I") (by decide +kernel)) (fun _ h9 => h9) rfl dX8_copy_128 ?_
    refine lv_iconst (v := 1) hx hb dX8_copy_131 (by decide) ?_
    refine lv_iload_n hx hb dX8_copy_132 rfl (lv_at hl 1 rfl) ?_
    refine lv_iload_n hx hb dX8_copy_133 rfl (lv_at hl 2 rfl) ?_
    have hPc := hP.sub (ws' := [((r 7), .inl (cI, 5, .inl (F 7)))]) [2] rfl
    have hDc := hD.sub (ws' := [((r 7), .inl (cI, 5, .inl (F 7)))]) [2] (by decide) rfl
    have hFc := va_free (wc := [((r 7), .inl (cI, 5, .inl (F 7)))]) hD hS hA [2] rfl
    refine va_callv (va_runS (As := [.ref (r 7), .int 1, .int (nI fr), .int (nI to)]) (rest := []) ⟨hx, hb, hml, hown, hts⟩ ((c_moveInts l dC dI cI cZ cB cJ cP cW (r 7) 5 1 fr to (F 7) H7.size) (by decide) (by omega) (by omega) (by omega)) (va_cwS 4 hts g129_m_copy_moveInts rfl rfl rfl (by decide +kernel) ⟨Nat.le_of_ble_eq_true rfl, Nat.le_of_ble_eq_true rfl⟩) ⟨fbM, fun U hU hW => ⟨rfl, by rw [hU], hE.warm hW, by rw [hU]; exact hPc, hDc.weaken (fun _ _ _ _ => trivial)⟩⟩ rfl rfl hl.1 rfl (lv_room (Nat.le_of_ble_eq_true rfl)) dX8_copy_134 ⟨Nat.le_of_ble_eq_true rfl, Nat.le_of_ble_eq_true rfl⟩) hS (fun q _ h => hFc q h) hFc (fun u9 t H10 locs ht hvm hr8 hB hz1 hk1 hS => ?_)
    obtain ⟨hP1, hD1⟩ := hB
    rw [ht] at hP1
    obtain ⟨hP, hD⟩ := va_join (wr := [((r 0), .inr (8, [.int 0, .ref (r 1), .int 0, .ref (r 3), .ref (r 4), .ref (r 5), .ref (r 6), .ref (r 7), .ref (r 8), .ref (r 9), .ref (r 10), .ref (r 11), .ref (r 12), .ref (r 13), .ref (r 14), .ref (r 15), .ref (r 16), .ref (r 17), .ref (r 18), .ref (r 19), .ref (r 20), .ref (r 21), .ref (r 22), .ref (r 23), .ref (r 24), .ref (r 25), .ref (r 26), .ref (r 27), .ref (r 28), .ref (r 29), .int 0, .int 0, .int 0, .int 0, .int 0, .int 0, .int (-1), .int 0, .int 0, .int 0, .int 0, .int 0, .int 0, .ref (r 43), .ref (r 44), .ref (r 45), .int 0, .ref (r 47)])), ((r 14), .inl (cZ, 2000, .inl g)), ((r 8), .inl (cI, 100, .inl (F 8))), ((r 9), .inl (cI, 110, .inl (F 9))), ((r 10), .inl (cI, 110, .inl (F 10))), ((r 11), .inl (cI, 110, .inl (F 11))), ((r 12), .inl (cI, 600, .inl (F 12))), ((r 13), .inl (cI, 5, .inl (F 13))), ((r 15), .inl (cI, 80, .inl (F 15))), ((r 16), .inl (cI, 5, .inl (F 16))), ((r 17), .inl (cI, 30, .inl (F 17))), ((r 18), .inl (cI, 30, .inl (F 18))), ((r 19), .inl (cI, 30, .inl (F 19))), ((r 20), .inl (cI, 30, .inl (F 20))), ((r 21), .inl (cI, 30, .inl (F 21))), ((r 22), .inl (cI, 30, .inl (F 22))), ((r 23), .inl (cI, 30, .inl (F 23))), ((r 24), .inl (cI, 30, .inl (F 24))), ((r 25), .inl (cI, 780, .inl (F 25))), ((r 28), .inl (cI, 5, .inl (F 28))), ((r 29), .inl (cI, 18000, .inl (F 29))), ((r 26), .inl (cB, 27000, .inl (F 26))), ((r 27), .inl (cI, 27000, .inl (F 27))), ((r 6), .inl (cI, 5, .inl u6))]) (w1 := [((r 7), .inl (cI, 5, .inl u9))]) hP hD [2] [0, 1, 3, 4, 5, 6, 7, 8, 9, 10, 11, 12, 13, 14, 15, 16, 17, 18, 19, 20, 21, 22, 23, 24] rfl rfl (by decide) (by decide) hk1 hFc hP1 hD1
    have hP : va_P (dC, dI) vwCl [((r 0), .inr (8, [.int 0, .ref (r 1), .int 0, .ref (r 3), .ref (r 4), .ref (r 5), .ref (r 6), .ref (r 7), .ref (r 8), .ref (r 9), .ref (r 10), .ref (r 11), .ref (r 12), .ref (r 13), .ref (r 14), .ref (r 15), .ref (r 16), .ref (r 17), .ref (r 18), .ref (r 19), .ref (r 20), .ref (r 21), .ref (r 22), .ref (r 23), .ref (r 24), .ref (r 25), .ref (r 26), .ref (r 27), .ref (r 28), .ref (r 29), .int 0, .int 0, .int 0, .int 0, .int 0, .int 0, .int (-1), .int 0, .int 0, .int 0, .int 0, .int 0, .int 0, .ref (r 43), .ref (r 44), .ref (r 45), .int 0, .ref (r 47)])), ((r 14), .inl (cZ, 2000, .inl g)), ((r 8), .inl (cI, 100, .inl (F 8))), ((r 9), .inl (cI, 110, .inl (F 9))), ((r 10), .inl (cI, 110, .inl (F 10))), ((r 11), .inl (cI, 110, .inl (F 11))), ((r 12), .inl (cI, 600, .inl (F 12))), ((r 13), .inl (cI, 5, .inl (F 13))), ((r 15), .inl (cI, 80, .inl (F 15))), ((r 16), .inl (cI, 5, .inl (F 16))), ((r 17), .inl (cI, 30, .inl (F 17))), ((r 18), .inl (cI, 30, .inl (F 18))), ((r 19), .inl (cI, 30, .inl (F 19))), ((r 20), .inl (cI, 30, .inl (F 20))), ((r 21), .inl (cI, 30, .inl (F 21))), ((r 22), .inl (cI, 30, .inl (F 22))), ((r 23), .inl (cI, 30, .inl (F 23))), ((r 24), .inl (cI, 30, .inl (F 24))), ((r 25), .inl (cI, 780, .inl (F 25))), ((r 28), .inl (cI, 5, .inl (F 28))), ((r 29), .inl (cI, 18000, .inl (F 29))), ((r 26), .inl (cB, 27000, .inl (F 26))), ((r 27), .inl (cI, 27000, .inl (F 27))), ((r 6), .inl (cI, 5, .inl u6)), ((r 7), .inl (cI, 5, .inl u9))] H10 := hP
    have hD : va_D A [((r 0), .inr (8, [.int 0, .ref (r 1), .int 0, .ref (r 3), .ref (r 4), .ref (r 5), .ref (r 6), .ref (r 7), .ref (r 8), .ref (r 9), .ref (r 10), .ref (r 11), .ref (r 12), .ref (r 13), .ref (r 14), .ref (r 15), .ref (r 16), .ref (r 17), .ref (r 18), .ref (r 19), .ref (r 20), .ref (r 21), .ref (r 22), .ref (r 23), .ref (r 24), .ref (r 25), .ref (r 26), .ref (r 27), .ref (r 28), .ref (r 29), .int 0, .int 0, .int 0, .int 0, .int 0, .int 0, .int (-1), .int 0, .int 0, .int 0, .int 0, .int 0, .int 0, .ref (r 43), .ref (r 44), .ref (r 45), .int 0, .ref (r 47)])), ((r 14), .inl (cZ, 2000, .inl g)), ((r 8), .inl (cI, 100, .inl (F 8))), ((r 9), .inl (cI, 110, .inl (F 9))), ((r 10), .inl (cI, 110, .inl (F 10))), ((r 11), .inl (cI, 110, .inl (F 11))), ((r 12), .inl (cI, 600, .inl (F 12))), ((r 13), .inl (cI, 5, .inl (F 13))), ((r 15), .inl (cI, 80, .inl (F 15))), ((r 16), .inl (cI, 5, .inl (F 16))), ((r 17), .inl (cI, 30, .inl (F 17))), ((r 18), .inl (cI, 30, .inl (F 18))), ((r 19), .inl (cI, 30, .inl (F 19))), ((r 20), .inl (cI, 30, .inl (F 20))), ((r 21), .inl (cI, 30, .inl (F 21))), ((r 22), .inl (cI, 30, .inl (F 22))), ((r 23), .inl (cI, 30, .inl (F 23))), ((r 24), .inl (cI, 30, .inl (F 24))), ((r 25), .inl (cI, 780, .inl (F 25))), ((r 28), .inl (cI, 5, .inl (F 28))), ((r 29), .inl (cI, 18000, .inl (F 29))), ((r 26), .inl (cB, 27000, .inl (F 26))), ((r 27), .inl (cI, 27000, .inl (F 27))), ((r 6), .inl (cI, 5, .inl u6)), ((r 7), .inl (cI, 5, .inl u9))] := hD
    refine lv_aload_n hx hb dX8_copy_137 rfl (lv_at hl 0 rfl) ?_
    refine va_get (D := (dC, dI)) (ci := 8) (v := .ref (r 8)) (C := RX8) (T := TX8) (N := 48) hx hb hts in_m_copy_X8 hown hK hP 0 rfl rfl 8 (by decide) (hts (.fieldLink RX8 31 "DepotMarchModel" "lotSize" "[I") (by decide +kernel)) (fun _ h9 => h9) rfl dX8_copy_138 ?_
    refine lv_bipush (v := 20) hx hb dX8_copy_141 (by decide) ?_
    refine lv_iload_n hx hb dX8_copy_143 rfl (lv_at hl 1 rfl) ?_
    refine lv_iload_n hx hb dX8_copy_144 rfl (lv_at hl 2 rfl) ?_
    have hPc := hP.sub (ws' := [((r 8), .inl (cI, 100, .inl (F 8)))]) [2] rfl
    have hDc := hD.sub (ws' := [((r 8), .inl (cI, 100, .inl (F 8)))]) [2] (by decide) rfl
    have hFc := va_free (wc := [((r 8), .inl (cI, 100, .inl (F 8)))]) hD hS hA [2] rfl
    refine va_callv (va_runS (As := [.ref (r 8), .int 20, .int (nI fr), .int (nI to)]) (rest := []) ⟨hx, hb, hml, hown, hts⟩ ((c_moveInts l dC dI cI cZ cB cJ cP cW (r 8) 100 20 fr to (F 8) H10.size) (by decide) (by omega) (by omega) (by omega)) (va_cwS 4 hts g129_m_copy_moveInts rfl rfl rfl (by decide +kernel) ⟨Nat.le_of_ble_eq_true rfl, Nat.le_of_ble_eq_true rfl⟩) ⟨fbM, fun U hU hW => ⟨rfl, by rw [hU], hE.warm hW, by rw [hU]; exact hPc, hDc.weaken (fun _ _ _ _ => trivial)⟩⟩ rfl rfl hl.1 rfl (lv_room (Nat.le_of_ble_eq_true rfl)) dX8_copy_145 ⟨Nat.le_of_ble_eq_true rfl, Nat.le_of_ble_eq_true rfl⟩) hS (fun q _ h => hFc q h) hFc (fun u12 t H13 locs ht hvm hr11 hB hz1 hk1 hS => ?_)
    obtain ⟨hP1, hD1⟩ := hB
    rw [ht] at hP1
    obtain ⟨hP, hD⟩ := va_join (wr := [((r 0), .inr (8, [.int 0, .ref (r 1), .int 0, .ref (r 3), .ref (r 4), .ref (r 5), .ref (r 6), .ref (r 7), .ref (r 8), .ref (r 9), .ref (r 10), .ref (r 11), .ref (r 12), .ref (r 13), .ref (r 14), .ref (r 15), .ref (r 16), .ref (r 17), .ref (r 18), .ref (r 19), .ref (r 20), .ref (r 21), .ref (r 22), .ref (r 23), .ref (r 24), .ref (r 25), .ref (r 26), .ref (r 27), .ref (r 28), .ref (r 29), .int 0, .int 0, .int 0, .int 0, .int 0, .int 0, .int (-1), .int 0, .int 0, .int 0, .int 0, .int 0, .int 0, .ref (r 43), .ref (r 44), .ref (r 45), .int 0, .ref (r 47)])), ((r 14), .inl (cZ, 2000, .inl g)), ((r 9), .inl (cI, 110, .inl (F 9))), ((r 10), .inl (cI, 110, .inl (F 10))), ((r 11), .inl (cI, 110, .inl (F 11))), ((r 12), .inl (cI, 600, .inl (F 12))), ((r 13), .inl (cI, 5, .inl (F 13))), ((r 15), .inl (cI, 80, .inl (F 15))), ((r 16), .inl (cI, 5, .inl (F 16))), ((r 17), .inl (cI, 30, .inl (F 17))), ((r 18), .inl (cI, 30, .inl (F 18))), ((r 19), .inl (cI, 30, .inl (F 19))), ((r 20), .inl (cI, 30, .inl (F 20))), ((r 21), .inl (cI, 30, .inl (F 21))), ((r 22), .inl (cI, 30, .inl (F 22))), ((r 23), .inl (cI, 30, .inl (F 23))), ((r 24), .inl (cI, 30, .inl (F 24))), ((r 25), .inl (cI, 780, .inl (F 25))), ((r 28), .inl (cI, 5, .inl (F 28))), ((r 29), .inl (cI, 18000, .inl (F 29))), ((r 26), .inl (cB, 27000, .inl (F 26))), ((r 27), .inl (cI, 27000, .inl (F 27))), ((r 6), .inl (cI, 5, .inl u6)), ((r 7), .inl (cI, 5, .inl u9))]) (w1 := [((r 8), .inl (cI, 100, .inl u12))]) hP hD [2] [0, 1, 3, 4, 5, 6, 7, 8, 9, 10, 11, 12, 13, 14, 15, 16, 17, 18, 19, 20, 21, 22, 23, 24] rfl rfl (by decide) (by decide) hk1 hFc hP1 hD1
    have hP : va_P (dC, dI) vwCl [((r 0), .inr (8, [.int 0, .ref (r 1), .int 0, .ref (r 3), .ref (r 4), .ref (r 5), .ref (r 6), .ref (r 7), .ref (r 8), .ref (r 9), .ref (r 10), .ref (r 11), .ref (r 12), .ref (r 13), .ref (r 14), .ref (r 15), .ref (r 16), .ref (r 17), .ref (r 18), .ref (r 19), .ref (r 20), .ref (r 21), .ref (r 22), .ref (r 23), .ref (r 24), .ref (r 25), .ref (r 26), .ref (r 27), .ref (r 28), .ref (r 29), .int 0, .int 0, .int 0, .int 0, .int 0, .int 0, .int (-1), .int 0, .int 0, .int 0, .int 0, .int 0, .int 0, .ref (r 43), .ref (r 44), .ref (r 45), .int 0, .ref (r 47)])), ((r 14), .inl (cZ, 2000, .inl g)), ((r 9), .inl (cI, 110, .inl (F 9))), ((r 10), .inl (cI, 110, .inl (F 10))), ((r 11), .inl (cI, 110, .inl (F 11))), ((r 12), .inl (cI, 600, .inl (F 12))), ((r 13), .inl (cI, 5, .inl (F 13))), ((r 15), .inl (cI, 80, .inl (F 15))), ((r 16), .inl (cI, 5, .inl (F 16))), ((r 17), .inl (cI, 30, .inl (F 17))), ((r 18), .inl (cI, 30, .inl (F 18))), ((r 19), .inl (cI, 30, .inl (F 19))), ((r 20), .inl (cI, 30, .inl (F 20))), ((r 21), .inl (cI, 30, .inl (F 21))), ((r 22), .inl (cI, 30, .inl (F 22))), ((r 23), .inl (cI, 30, .inl (F 23))), ((r 24), .inl (cI, 30, .inl (F 24))), ((r 25), .inl (cI, 780, .inl (F 25))), ((r 28), .inl (cI, 5, .inl (F 28))), ((r 29), .inl (cI, 18000, .inl (F 29))), ((r 26), .inl (cB, 27000, .inl (F 26))), ((r 27), .inl (cI, 27000, .inl (F 27))), ((r 6), .inl (cI, 5, .inl u6)), ((r 7), .inl (cI, 5, .inl u9)), ((r 8), .inl (cI, 100, .inl u12))] H13 := hP
    have hD : va_D A [((r 0), .inr (8, [.int 0, .ref (r 1), .int 0, .ref (r 3), .ref (r 4), .ref (r 5), .ref (r 6), .ref (r 7), .ref (r 8), .ref (r 9), .ref (r 10), .ref (r 11), .ref (r 12), .ref (r 13), .ref (r 14), .ref (r 15), .ref (r 16), .ref (r 17), .ref (r 18), .ref (r 19), .ref (r 20), .ref (r 21), .ref (r 22), .ref (r 23), .ref (r 24), .ref (r 25), .ref (r 26), .ref (r 27), .ref (r 28), .ref (r 29), .int 0, .int 0, .int 0, .int 0, .int 0, .int 0, .int (-1), .int 0, .int 0, .int 0, .int 0, .int 0, .int 0, .ref (r 43), .ref (r 44), .ref (r 45), .int 0, .ref (r 47)])), ((r 14), .inl (cZ, 2000, .inl g)), ((r 9), .inl (cI, 110, .inl (F 9))), ((r 10), .inl (cI, 110, .inl (F 10))), ((r 11), .inl (cI, 110, .inl (F 11))), ((r 12), .inl (cI, 600, .inl (F 12))), ((r 13), .inl (cI, 5, .inl (F 13))), ((r 15), .inl (cI, 80, .inl (F 15))), ((r 16), .inl (cI, 5, .inl (F 16))), ((r 17), .inl (cI, 30, .inl (F 17))), ((r 18), .inl (cI, 30, .inl (F 18))), ((r 19), .inl (cI, 30, .inl (F 19))), ((r 20), .inl (cI, 30, .inl (F 20))), ((r 21), .inl (cI, 30, .inl (F 21))), ((r 22), .inl (cI, 30, .inl (F 22))), ((r 23), .inl (cI, 30, .inl (F 23))), ((r 24), .inl (cI, 30, .inl (F 24))), ((r 25), .inl (cI, 780, .inl (F 25))), ((r 28), .inl (cI, 5, .inl (F 28))), ((r 29), .inl (cI, 18000, .inl (F 29))), ((r 26), .inl (cB, 27000, .inl (F 26))), ((r 27), .inl (cI, 27000, .inl (F 27))), ((r 6), .inl (cI, 5, .inl u6)), ((r 7), .inl (cI, 5, .inl u9)), ((r 8), .inl (cI, 100, .inl u12))] := hD
    refine lv_aload_n hx hb dX8_copy_148 rfl (lv_at hl 0 rfl) ?_
    refine va_get (D := (dC, dI)) (ci := 8) (v := .ref (r 9)) (C := RX8) (T := TX8) (N := 48) hx hb hts in_m_copy_X8 hown hK hP 0 rfl rfl 9 (by decide) (hts (.fieldLink RX8 34 "DepotMarchModel" "first" "[I") (by decide +kernel)) (fun _ h9 => h9) rfl dX8_copy_149 ?_
    refine lv_bipush (v := 22) hx hb dX8_copy_152 (by decide) ?_
    refine lv_iload_n hx hb dX8_copy_154 rfl (lv_at hl 1 rfl) ?_
    refine lv_iload_n hx hb dX8_copy_155 rfl (lv_at hl 2 rfl) ?_
    have hPc := hP.sub (ws' := [((r 9), .inl (cI, 110, .inl (F 9)))]) [2] rfl
    have hDc := hD.sub (ws' := [((r 9), .inl (cI, 110, .inl (F 9)))]) [2] (by decide) rfl
    have hFc := va_free (wc := [((r 9), .inl (cI, 110, .inl (F 9)))]) hD hS hA [2] rfl
    refine va_callv (va_runS (As := [.ref (r 9), .int 22, .int (nI fr), .int (nI to)]) (rest := []) ⟨hx, hb, hml, hown, hts⟩ ((c_moveInts l dC dI cI cZ cB cJ cP cW (r 9) 110 22 fr to (F 9) H13.size) (by decide) (by omega) (by omega) (by omega)) (va_cwS 4 hts g129_m_copy_moveInts rfl rfl rfl (by decide +kernel) ⟨Nat.le_of_ble_eq_true rfl, Nat.le_of_ble_eq_true rfl⟩) ⟨fbM, fun U hU hW => ⟨rfl, by rw [hU], hE.warm hW, by rw [hU]; exact hPc, hDc.weaken (fun _ _ _ _ => trivial)⟩⟩ rfl rfl hl.1 rfl (lv_room (Nat.le_of_ble_eq_true rfl)) dX8_copy_156 ⟨Nat.le_of_ble_eq_true rfl, Nat.le_of_ble_eq_true rfl⟩) hS (fun q _ h => hFc q h) hFc (fun u15 t H16 locs ht hvm hr14 hB hz1 hk1 hS => ?_)
    obtain ⟨hP1, hD1⟩ := hB
    rw [ht] at hP1
    obtain ⟨hP, hD⟩ := va_join (wr := [((r 0), .inr (8, [.int 0, .ref (r 1), .int 0, .ref (r 3), .ref (r 4), .ref (r 5), .ref (r 6), .ref (r 7), .ref (r 8), .ref (r 9), .ref (r 10), .ref (r 11), .ref (r 12), .ref (r 13), .ref (r 14), .ref (r 15), .ref (r 16), .ref (r 17), .ref (r 18), .ref (r 19), .ref (r 20), .ref (r 21), .ref (r 22), .ref (r 23), .ref (r 24), .ref (r 25), .ref (r 26), .ref (r 27), .ref (r 28), .ref (r 29), .int 0, .int 0, .int 0, .int 0, .int 0, .int 0, .int (-1), .int 0, .int 0, .int 0, .int 0, .int 0, .int 0, .ref (r 43), .ref (r 44), .ref (r 45), .int 0, .ref (r 47)])), ((r 14), .inl (cZ, 2000, .inl g)), ((r 10), .inl (cI, 110, .inl (F 10))), ((r 11), .inl (cI, 110, .inl (F 11))), ((r 12), .inl (cI, 600, .inl (F 12))), ((r 13), .inl (cI, 5, .inl (F 13))), ((r 15), .inl (cI, 80, .inl (F 15))), ((r 16), .inl (cI, 5, .inl (F 16))), ((r 17), .inl (cI, 30, .inl (F 17))), ((r 18), .inl (cI, 30, .inl (F 18))), ((r 19), .inl (cI, 30, .inl (F 19))), ((r 20), .inl (cI, 30, .inl (F 20))), ((r 21), .inl (cI, 30, .inl (F 21))), ((r 22), .inl (cI, 30, .inl (F 22))), ((r 23), .inl (cI, 30, .inl (F 23))), ((r 24), .inl (cI, 30, .inl (F 24))), ((r 25), .inl (cI, 780, .inl (F 25))), ((r 28), .inl (cI, 5, .inl (F 28))), ((r 29), .inl (cI, 18000, .inl (F 29))), ((r 26), .inl (cB, 27000, .inl (F 26))), ((r 27), .inl (cI, 27000, .inl (F 27))), ((r 6), .inl (cI, 5, .inl u6)), ((r 7), .inl (cI, 5, .inl u9)), ((r 8), .inl (cI, 100, .inl u12))]) (w1 := [((r 9), .inl (cI, 110, .inl u15))]) hP hD [2] [0, 1, 3, 4, 5, 6, 7, 8, 9, 10, 11, 12, 13, 14, 15, 16, 17, 18, 19, 20, 21, 22, 23, 24] rfl rfl (by decide) (by decide) hk1 hFc hP1 hD1
    have hP : va_P (dC, dI) vwCl [((r 0), .inr (8, [.int 0, .ref (r 1), .int 0, .ref (r 3), .ref (r 4), .ref (r 5), .ref (r 6), .ref (r 7), .ref (r 8), .ref (r 9), .ref (r 10), .ref (r 11), .ref (r 12), .ref (r 13), .ref (r 14), .ref (r 15), .ref (r 16), .ref (r 17), .ref (r 18), .ref (r 19), .ref (r 20), .ref (r 21), .ref (r 22), .ref (r 23), .ref (r 24), .ref (r 25), .ref (r 26), .ref (r 27), .ref (r 28), .ref (r 29), .int 0, .int 0, .int 0, .int 0, .int 0, .int 0, .int (-1), .int 0, .int 0, .int 0, .int 0, .int 0, .int 0, .ref (r 43), .ref (r 44), .ref (r 45), .int 0, .ref (r 47)])), ((r 14), .inl (cZ, 2000, .inl g)), ((r 10), .inl (cI, 110, .inl (F 10))), ((r 11), .inl (cI, 110, .inl (F 11))), ((r 12), .inl (cI, 600, .inl (F 12))), ((r 13), .inl (cI, 5, .inl (F 13))), ((r 15), .inl (cI, 80, .inl (F 15))), ((r 16), .inl (cI, 5, .inl (F 16))), ((r 17), .inl (cI, 30, .inl (F 17))), ((r 18), .inl (cI, 30, .inl (F 18))), ((r 19), .inl (cI, 30, .inl (F 19))), ((r 20), .inl (cI, 30, .inl (F 20))), ((r 21), .inl (cI, 30, .inl (F 21))), ((r 22), .inl (cI, 30, .inl (F 22))), ((r 23), .inl (cI, 30, .inl (F 23))), ((r 24), .inl (cI, 30, .inl (F 24))), ((r 25), .inl (cI, 780, .inl (F 25))), ((r 28), .inl (cI, 5, .inl (F 28))), ((r 29), .inl (cI, 18000, .inl (F 29))), ((r 26), .inl (cB, 27000, .inl (F 26))), ((r 27), .inl (cI, 27000, .inl (F 27))), ((r 6), .inl (cI, 5, .inl u6)), ((r 7), .inl (cI, 5, .inl u9)), ((r 8), .inl (cI, 100, .inl u12)), ((r 9), .inl (cI, 110, .inl u15))] H16 := hP
    have hD : va_D A [((r 0), .inr (8, [.int 0, .ref (r 1), .int 0, .ref (r 3), .ref (r 4), .ref (r 5), .ref (r 6), .ref (r 7), .ref (r 8), .ref (r 9), .ref (r 10), .ref (r 11), .ref (r 12), .ref (r 13), .ref (r 14), .ref (r 15), .ref (r 16), .ref (r 17), .ref (r 18), .ref (r 19), .ref (r 20), .ref (r 21), .ref (r 22), .ref (r 23), .ref (r 24), .ref (r 25), .ref (r 26), .ref (r 27), .ref (r 28), .ref (r 29), .int 0, .int 0, .int 0, .int 0, .int 0, .int 0, .int (-1), .int 0, .int 0, .int 0, .int 0, .int 0, .int 0, .ref (r 43), .ref (r 44), .ref (r 45), .int 0, .ref (r 47)])), ((r 14), .inl (cZ, 2000, .inl g)), ((r 10), .inl (cI, 110, .inl (F 10))), ((r 11), .inl (cI, 110, .inl (F 11))), ((r 12), .inl (cI, 600, .inl (F 12))), ((r 13), .inl (cI, 5, .inl (F 13))), ((r 15), .inl (cI, 80, .inl (F 15))), ((r 16), .inl (cI, 5, .inl (F 16))), ((r 17), .inl (cI, 30, .inl (F 17))), ((r 18), .inl (cI, 30, .inl (F 18))), ((r 19), .inl (cI, 30, .inl (F 19))), ((r 20), .inl (cI, 30, .inl (F 20))), ((r 21), .inl (cI, 30, .inl (F 21))), ((r 22), .inl (cI, 30, .inl (F 22))), ((r 23), .inl (cI, 30, .inl (F 23))), ((r 24), .inl (cI, 30, .inl (F 24))), ((r 25), .inl (cI, 780, .inl (F 25))), ((r 28), .inl (cI, 5, .inl (F 28))), ((r 29), .inl (cI, 18000, .inl (F 29))), ((r 26), .inl (cB, 27000, .inl (F 26))), ((r 27), .inl (cI, 27000, .inl (F 27))), ((r 6), .inl (cI, 5, .inl u6)), ((r 7), .inl (cI, 5, .inl u9)), ((r 8), .inl (cI, 100, .inl u12)), ((r 9), .inl (cI, 110, .inl u15))] := hD
    refine lv_aload_n hx hb dX8_copy_159 rfl (lv_at hl 0 rfl) ?_
    refine va_get (D := (dC, dI)) (ci := 8) (v := .ref (r 10)) (C := RX8) (T := TX8) (N := 48) hx hb hts in_m_copy_X8 hown hK hP 0 rfl rfl 10 (by decide) (hts (.fieldLink RX8 37 "DepotMarchModel" "latest" "[I") (by decide +kernel)) (fun _ h9 => h9) rfl dX8_copy_160 ?_
    refine lv_bipush (v := 22) hx hb dX8_copy_163 (by decide) ?_
    refine lv_iload_n hx hb dX8_copy_165 rfl (lv_at hl 1 rfl) ?_
    refine lv_iload_n hx hb dX8_copy_166 rfl (lv_at hl 2 rfl) ?_
    have hPc := hP.sub (ws' := [((r 10), .inl (cI, 110, .inl (F 10)))]) [2] rfl
    have hDc := hD.sub (ws' := [((r 10), .inl (cI, 110, .inl (F 10)))]) [2] (by decide) rfl
    have hFc := va_free (wc := [((r 10), .inl (cI, 110, .inl (F 10)))]) hD hS hA [2] rfl
    refine va_callv (va_runS (As := [.ref (r 10), .int 22, .int (nI fr), .int (nI to)]) (rest := []) ⟨hx, hb, hml, hown, hts⟩ ((c_moveInts l dC dI cI cZ cB cJ cP cW (r 10) 110 22 fr to (F 10) H16.size) (by decide) (by omega) (by omega) (by omega)) (va_cwS 4 hts g129_m_copy_moveInts rfl rfl rfl (by decide +kernel) ⟨Nat.le_of_ble_eq_true rfl, Nat.le_of_ble_eq_true rfl⟩) ⟨fbM, fun U hU hW => ⟨rfl, by rw [hU], hE.warm hW, by rw [hU]; exact hPc, hDc.weaken (fun _ _ _ _ => trivial)⟩⟩ rfl rfl hl.1 rfl (lv_room (Nat.le_of_ble_eq_true rfl)) dX8_copy_167 ⟨Nat.le_of_ble_eq_true rfl, Nat.le_of_ble_eq_true rfl⟩) hS (fun q _ h => hFc q h) hFc (fun u18 t H19 locs ht hvm hr17 hB hz1 hk1 hS => ?_)
    obtain ⟨hP1, hD1⟩ := hB
    rw [ht] at hP1
    obtain ⟨hP, hD⟩ := va_join (wr := [((r 0), .inr (8, [.int 0, .ref (r 1), .int 0, .ref (r 3), .ref (r 4), .ref (r 5), .ref (r 6), .ref (r 7), .ref (r 8), .ref (r 9), .ref (r 10), .ref (r 11), .ref (r 12), .ref (r 13), .ref (r 14), .ref (r 15), .ref (r 16), .ref (r 17), .ref (r 18), .ref (r 19), .ref (r 20), .ref (r 21), .ref (r 22), .ref (r 23), .ref (r 24), .ref (r 25), .ref (r 26), .ref (r 27), .ref (r 28), .ref (r 29), .int 0, .int 0, .int 0, .int 0, .int 0, .int 0, .int (-1), .int 0, .int 0, .int 0, .int 0, .int 0, .int 0, .ref (r 43), .ref (r 44), .ref (r 45), .int 0, .ref (r 47)])), ((r 14), .inl (cZ, 2000, .inl g)), ((r 11), .inl (cI, 110, .inl (F 11))), ((r 12), .inl (cI, 600, .inl (F 12))), ((r 13), .inl (cI, 5, .inl (F 13))), ((r 15), .inl (cI, 80, .inl (F 15))), ((r 16), .inl (cI, 5, .inl (F 16))), ((r 17), .inl (cI, 30, .inl (F 17))), ((r 18), .inl (cI, 30, .inl (F 18))), ((r 19), .inl (cI, 30, .inl (F 19))), ((r 20), .inl (cI, 30, .inl (F 20))), ((r 21), .inl (cI, 30, .inl (F 21))), ((r 22), .inl (cI, 30, .inl (F 22))), ((r 23), .inl (cI, 30, .inl (F 23))), ((r 24), .inl (cI, 30, .inl (F 24))), ((r 25), .inl (cI, 780, .inl (F 25))), ((r 28), .inl (cI, 5, .inl (F 28))), ((r 29), .inl (cI, 18000, .inl (F 29))), ((r 26), .inl (cB, 27000, .inl (F 26))), ((r 27), .inl (cI, 27000, .inl (F 27))), ((r 6), .inl (cI, 5, .inl u6)), ((r 7), .inl (cI, 5, .inl u9)), ((r 8), .inl (cI, 100, .inl u12)), ((r 9), .inl (cI, 110, .inl u15))]) (w1 := [((r 10), .inl (cI, 110, .inl u18))]) hP hD [2] [0, 1, 3, 4, 5, 6, 7, 8, 9, 10, 11, 12, 13, 14, 15, 16, 17, 18, 19, 20, 21, 22, 23, 24] rfl rfl (by decide) (by decide) hk1 hFc hP1 hD1
    have hP : va_P (dC, dI) vwCl [((r 0), .inr (8, [.int 0, .ref (r 1), .int 0, .ref (r 3), .ref (r 4), .ref (r 5), .ref (r 6), .ref (r 7), .ref (r 8), .ref (r 9), .ref (r 10), .ref (r 11), .ref (r 12), .ref (r 13), .ref (r 14), .ref (r 15), .ref (r 16), .ref (r 17), .ref (r 18), .ref (r 19), .ref (r 20), .ref (r 21), .ref (r 22), .ref (r 23), .ref (r 24), .ref (r 25), .ref (r 26), .ref (r 27), .ref (r 28), .ref (r 29), .int 0, .int 0, .int 0, .int 0, .int 0, .int 0, .int (-1), .int 0, .int 0, .int 0, .int 0, .int 0, .int 0, .ref (r 43), .ref (r 44), .ref (r 45), .int 0, .ref (r 47)])), ((r 14), .inl (cZ, 2000, .inl g)), ((r 11), .inl (cI, 110, .inl (F 11))), ((r 12), .inl (cI, 600, .inl (F 12))), ((r 13), .inl (cI, 5, .inl (F 13))), ((r 15), .inl (cI, 80, .inl (F 15))), ((r 16), .inl (cI, 5, .inl (F 16))), ((r 17), .inl (cI, 30, .inl (F 17))), ((r 18), .inl (cI, 30, .inl (F 18))), ((r 19), .inl (cI, 30, .inl (F 19))), ((r 20), .inl (cI, 30, .inl (F 20))), ((r 21), .inl (cI, 30, .inl (F 21))), ((r 22), .inl (cI, 30, .inl (F 22))), ((r 23), .inl (cI, 30, .inl (F 23))), ((r 24), .inl (cI, 30, .inl (F 24))), ((r 25), .inl (cI, 780, .inl (F 25))), ((r 28), .inl (cI, 5, .inl (F 28))), ((r 29), .inl (cI, 18000, .inl (F 29))), ((r 26), .inl (cB, 27000, .inl (F 26))), ((r 27), .inl (cI, 27000, .inl (F 27))), ((r 6), .inl (cI, 5, .inl u6)), ((r 7), .inl (cI, 5, .inl u9)), ((r 8), .inl (cI, 100, .inl u12)), ((r 9), .inl (cI, 110, .inl u15)), ((r 10), .inl (cI, 110, .inl u18))] H19 := hP
    have hD : va_D A [((r 0), .inr (8, [.int 0, .ref (r 1), .int 0, .ref (r 3), .ref (r 4), .ref (r 5), .ref (r 6), .ref (r 7), .ref (r 8), .ref (r 9), .ref (r 10), .ref (r 11), .ref (r 12), .ref (r 13), .ref (r 14), .ref (r 15), .ref (r 16), .ref (r 17), .ref (r 18), .ref (r 19), .ref (r 20), .ref (r 21), .ref (r 22), .ref (r 23), .ref (r 24), .ref (r 25), .ref (r 26), .ref (r 27), .ref (r 28), .ref (r 29), .int 0, .int 0, .int 0, .int 0, .int 0, .int 0, .int (-1), .int 0, .int 0, .int 0, .int 0, .int 0, .int 0, .ref (r 43), .ref (r 44), .ref (r 45), .int 0, .ref (r 47)])), ((r 14), .inl (cZ, 2000, .inl g)), ((r 11), .inl (cI, 110, .inl (F 11))), ((r 12), .inl (cI, 600, .inl (F 12))), ((r 13), .inl (cI, 5, .inl (F 13))), ((r 15), .inl (cI, 80, .inl (F 15))), ((r 16), .inl (cI, 5, .inl (F 16))), ((r 17), .inl (cI, 30, .inl (F 17))), ((r 18), .inl (cI, 30, .inl (F 18))), ((r 19), .inl (cI, 30, .inl (F 19))), ((r 20), .inl (cI, 30, .inl (F 20))), ((r 21), .inl (cI, 30, .inl (F 21))), ((r 22), .inl (cI, 30, .inl (F 22))), ((r 23), .inl (cI, 30, .inl (F 23))), ((r 24), .inl (cI, 30, .inl (F 24))), ((r 25), .inl (cI, 780, .inl (F 25))), ((r 28), .inl (cI, 5, .inl (F 28))), ((r 29), .inl (cI, 18000, .inl (F 29))), ((r 26), .inl (cB, 27000, .inl (F 26))), ((r 27), .inl (cI, 27000, .inl (F 27))), ((r 6), .inl (cI, 5, .inl u6)), ((r 7), .inl (cI, 5, .inl u9)), ((r 8), .inl (cI, 100, .inl u12)), ((r 9), .inl (cI, 110, .inl u15)), ((r 10), .inl (cI, 110, .inl u18))] := hD
    refine lv_aload_n hx hb dX8_copy_170 rfl (lv_at hl 0 rfl) ?_
    refine va_get (D := (dC, dI)) (ci := 8) (v := .ref (r 11)) (C := RX8) (T := TX8) (N := 48) hx hb hts in_m_copy_X8 hown hK hP 0 rfl rfl 11 (by decide) (hts (.fieldLink RX8 40 "DepotMarchModel" "count" "[I") (by decide +kernel)) (fun _ h9 => h9) rfl dX8_copy_171 ?_
    refine lv_bipush (v := 22) hx hb dX8_copy_174 (by decide) ?_
    refine lv_iload_n hx hb dX8_copy_176 rfl (lv_at hl 1 rfl) ?_
    refine lv_iload_n hx hb dX8_copy_177 rfl (lv_at hl 2 rfl) ?_
    have hPc := hP.sub (ws' := [((r 11), .inl (cI, 110, .inl (F 11)))]) [2] rfl
    have hDc := hD.sub (ws' := [((r 11), .inl (cI, 110, .inl (F 11)))]) [2] (by decide) rfl
    have hFc := va_free (wc := [((r 11), .inl (cI, 110, .inl (F 11)))]) hD hS hA [2] rfl
    refine va_callv (va_runS (As := [.ref (r 11), .int 22, .int (nI fr), .int (nI to)]) (rest := []) ⟨hx, hb, hml, hown, hts⟩ ((c_moveInts l dC dI cI cZ cB cJ cP cW (r 11) 110 22 fr to (F 11) H19.size) (by decide) (by omega) (by omega) (by omega)) (va_cwS 4 hts g129_m_copy_moveInts rfl rfl rfl (by decide +kernel) ⟨Nat.le_of_ble_eq_true rfl, Nat.le_of_ble_eq_true rfl⟩) ⟨fbM, fun U hU hW => ⟨rfl, by rw [hU], hE.warm hW, by rw [hU]; exact hPc, hDc.weaken (fun _ _ _ _ => trivial)⟩⟩ rfl rfl hl.1 rfl (lv_room (Nat.le_of_ble_eq_true rfl)) dX8_copy_178 ⟨Nat.le_of_ble_eq_true rfl, Nat.le_of_ble_eq_true rfl⟩) hS (fun q _ h => hFc q h) hFc (fun u21 t H22 locs ht hvm hr20 hB hz1 hk1 hS => ?_)
    obtain ⟨hP1, hD1⟩ := hB
    rw [ht] at hP1
    obtain ⟨hP, hD⟩ := va_join (wr := [((r 0), .inr (8, [.int 0, .ref (r 1), .int 0, .ref (r 3), .ref (r 4), .ref (r 5), .ref (r 6), .ref (r 7), .ref (r 8), .ref (r 9), .ref (r 10), .ref (r 11), .ref (r 12), .ref (r 13), .ref (r 14), .ref (r 15), .ref (r 16), .ref (r 17), .ref (r 18), .ref (r 19), .ref (r 20), .ref (r 21), .ref (r 22), .ref (r 23), .ref (r 24), .ref (r 25), .ref (r 26), .ref (r 27), .ref (r 28), .ref (r 29), .int 0, .int 0, .int 0, .int 0, .int 0, .int 0, .int (-1), .int 0, .int 0, .int 0, .int 0, .int 0, .int 0, .ref (r 43), .ref (r 44), .ref (r 45), .int 0, .ref (r 47)])), ((r 14), .inl (cZ, 2000, .inl g)), ((r 12), .inl (cI, 600, .inl (F 12))), ((r 13), .inl (cI, 5, .inl (F 13))), ((r 15), .inl (cI, 80, .inl (F 15))), ((r 16), .inl (cI, 5, .inl (F 16))), ((r 17), .inl (cI, 30, .inl (F 17))), ((r 18), .inl (cI, 30, .inl (F 18))), ((r 19), .inl (cI, 30, .inl (F 19))), ((r 20), .inl (cI, 30, .inl (F 20))), ((r 21), .inl (cI, 30, .inl (F 21))), ((r 22), .inl (cI, 30, .inl (F 22))), ((r 23), .inl (cI, 30, .inl (F 23))), ((r 24), .inl (cI, 30, .inl (F 24))), ((r 25), .inl (cI, 780, .inl (F 25))), ((r 28), .inl (cI, 5, .inl (F 28))), ((r 29), .inl (cI, 18000, .inl (F 29))), ((r 26), .inl (cB, 27000, .inl (F 26))), ((r 27), .inl (cI, 27000, .inl (F 27))), ((r 6), .inl (cI, 5, .inl u6)), ((r 7), .inl (cI, 5, .inl u9)), ((r 8), .inl (cI, 100, .inl u12)), ((r 9), .inl (cI, 110, .inl u15)), ((r 10), .inl (cI, 110, .inl u18))]) (w1 := [((r 11), .inl (cI, 110, .inl u21))]) hP hD [2] [0, 1, 3, 4, 5, 6, 7, 8, 9, 10, 11, 12, 13, 14, 15, 16, 17, 18, 19, 20, 21, 22, 23, 24] rfl rfl (by decide) (by decide) hk1 hFc hP1 hD1
    have hP : va_P (dC, dI) vwCl [((r 0), .inr (8, [.int 0, .ref (r 1), .int 0, .ref (r 3), .ref (r 4), .ref (r 5), .ref (r 6), .ref (r 7), .ref (r 8), .ref (r 9), .ref (r 10), .ref (r 11), .ref (r 12), .ref (r 13), .ref (r 14), .ref (r 15), .ref (r 16), .ref (r 17), .ref (r 18), .ref (r 19), .ref (r 20), .ref (r 21), .ref (r 22), .ref (r 23), .ref (r 24), .ref (r 25), .ref (r 26), .ref (r 27), .ref (r 28), .ref (r 29), .int 0, .int 0, .int 0, .int 0, .int 0, .int 0, .int (-1), .int 0, .int 0, .int 0, .int 0, .int 0, .int 0, .ref (r 43), .ref (r 44), .ref (r 45), .int 0, .ref (r 47)])), ((r 14), .inl (cZ, 2000, .inl g)), ((r 12), .inl (cI, 600, .inl (F 12))), ((r 13), .inl (cI, 5, .inl (F 13))), ((r 15), .inl (cI, 80, .inl (F 15))), ((r 16), .inl (cI, 5, .inl (F 16))), ((r 17), .inl (cI, 30, .inl (F 17))), ((r 18), .inl (cI, 30, .inl (F 18))), ((r 19), .inl (cI, 30, .inl (F 19))), ((r 20), .inl (cI, 30, .inl (F 20))), ((r 21), .inl (cI, 30, .inl (F 21))), ((r 22), .inl (cI, 30, .inl (F 22))), ((r 23), .inl (cI, 30, .inl (F 23))), ((r 24), .inl (cI, 30, .inl (F 24))), ((r 25), .inl (cI, 780, .inl (F 25))), ((r 28), .inl (cI, 5, .inl (F 28))), ((r 29), .inl (cI, 18000, .inl (F 29))), ((r 26), .inl (cB, 27000, .inl (F 26))), ((r 27), .inl (cI, 27000, .inl (F 27))), ((r 6), .inl (cI, 5, .inl u6)), ((r 7), .inl (cI, 5, .inl u9)), ((r 8), .inl (cI, 100, .inl u12)), ((r 9), .inl (cI, 110, .inl u15)), ((r 10), .inl (cI, 110, .inl u18)), ((r 11), .inl (cI, 110, .inl u21))] H22 := hP
    have hD : va_D A [((r 0), .inr (8, [.int 0, .ref (r 1), .int 0, .ref (r 3), .ref (r 4), .ref (r 5), .ref (r 6), .ref (r 7), .ref (r 8), .ref (r 9), .ref (r 10), .ref (r 11), .ref (r 12), .ref (r 13), .ref (r 14), .ref (r 15), .ref (r 16), .ref (r 17), .ref (r 18), .ref (r 19), .ref (r 20), .ref (r 21), .ref (r 22), .ref (r 23), .ref (r 24), .ref (r 25), .ref (r 26), .ref (r 27), .ref (r 28), .ref (r 29), .int 0, .int 0, .int 0, .int 0, .int 0, .int 0, .int (-1), .int 0, .int 0, .int 0, .int 0, .int 0, .int 0, .ref (r 43), .ref (r 44), .ref (r 45), .int 0, .ref (r 47)])), ((r 14), .inl (cZ, 2000, .inl g)), ((r 12), .inl (cI, 600, .inl (F 12))), ((r 13), .inl (cI, 5, .inl (F 13))), ((r 15), .inl (cI, 80, .inl (F 15))), ((r 16), .inl (cI, 5, .inl (F 16))), ((r 17), .inl (cI, 30, .inl (F 17))), ((r 18), .inl (cI, 30, .inl (F 18))), ((r 19), .inl (cI, 30, .inl (F 19))), ((r 20), .inl (cI, 30, .inl (F 20))), ((r 21), .inl (cI, 30, .inl (F 21))), ((r 22), .inl (cI, 30, .inl (F 22))), ((r 23), .inl (cI, 30, .inl (F 23))), ((r 24), .inl (cI, 30, .inl (F 24))), ((r 25), .inl (cI, 780, .inl (F 25))), ((r 28), .inl (cI, 5, .inl (F 28))), ((r 29), .inl (cI, 18000, .inl (F 29))), ((r 26), .inl (cB, 27000, .inl (F 26))), ((r 27), .inl (cI, 27000, .inl (F 27))), ((r 6), .inl (cI, 5, .inl u6)), ((r 7), .inl (cI, 5, .inl u9)), ((r 8), .inl (cI, 100, .inl u12)), ((r 9), .inl (cI, 110, .inl u15)), ((r 10), .inl (cI, 110, .inl u18)), ((r 11), .inl (cI, 110, .inl u21))] := hD
    refine lv_aload_n hx hb dX8_copy_181 rfl (lv_at hl 0 rfl) ?_
    refine va_get (D := (dC, dI)) (ci := 8) (v := .ref (r 12)) (C := RX8) (T := TX8) (N := 48) hx hb hts in_m_copy_X8 hown hK hP 0 rfl rfl 12 (by decide) (hts (.fieldLink RX8 43 "DepotMarchModel" "eaten" "[I") (by decide +kernel)) (fun _ h9 => h9) rfl dX8_copy_182 ?_
    refine lv_bipush (v := 120) hx hb dX8_copy_185 (by decide) ?_
    refine lv_iload_n hx hb dX8_copy_187 rfl (lv_at hl 1 rfl) ?_
    refine lv_iload_n hx hb dX8_copy_188 rfl (lv_at hl 2 rfl) ?_
    have hPc := hP.sub (ws' := [((r 12), .inl (cI, 600, .inl (F 12)))]) [2] rfl
    have hDc := hD.sub (ws' := [((r 12), .inl (cI, 600, .inl (F 12)))]) [2] (by decide) rfl
    have hFc := va_free (wc := [((r 12), .inl (cI, 600, .inl (F 12)))]) hD hS hA [2] rfl
    refine va_callv (va_runS (As := [.ref (r 12), .int 120, .int (nI fr), .int (nI to)]) (rest := []) ⟨hx, hb, hml, hown, hts⟩ ((c_moveInts l dC dI cI cZ cB cJ cP cW (r 12) 600 120 fr to (F 12) H22.size) (by decide) (by omega) (by omega) (by omega)) (va_cwS 4 hts g129_m_copy_moveInts rfl rfl rfl (by decide +kernel) ⟨Nat.le_of_ble_eq_true rfl, Nat.le_of_ble_eq_true rfl⟩) ⟨fbM, fun U hU hW => ⟨rfl, by rw [hU], hE.warm hW, by rw [hU]; exact hPc, hDc.weaken (fun _ _ _ _ => trivial)⟩⟩ rfl rfl hl.1 rfl (lv_room (Nat.le_of_ble_eq_true rfl)) dX8_copy_189 ⟨Nat.le_of_ble_eq_true rfl, Nat.le_of_ble_eq_true rfl⟩) hS (fun q _ h => hFc q h) hFc (fun u24 t H25 locs ht hvm hr23 hB hz1 hk1 hS => ?_)
    obtain ⟨hP1, hD1⟩ := hB
    rw [ht] at hP1
    obtain ⟨hP, hD⟩ := va_join (wr := [((r 0), .inr (8, [.int 0, .ref (r 1), .int 0, .ref (r 3), .ref (r 4), .ref (r 5), .ref (r 6), .ref (r 7), .ref (r 8), .ref (r 9), .ref (r 10), .ref (r 11), .ref (r 12), .ref (r 13), .ref (r 14), .ref (r 15), .ref (r 16), .ref (r 17), .ref (r 18), .ref (r 19), .ref (r 20), .ref (r 21), .ref (r 22), .ref (r 23), .ref (r 24), .ref (r 25), .ref (r 26), .ref (r 27), .ref (r 28), .ref (r 29), .int 0, .int 0, .int 0, .int 0, .int 0, .int 0, .int (-1), .int 0, .int 0, .int 0, .int 0, .int 0, .int 0, .ref (r 43), .ref (r 44), .ref (r 45), .int 0, .ref (r 47)])), ((r 14), .inl (cZ, 2000, .inl g)), ((r 13), .inl (cI, 5, .inl (F 13))), ((r 15), .inl (cI, 80, .inl (F 15))), ((r 16), .inl (cI, 5, .inl (F 16))), ((r 17), .inl (cI, 30, .inl (F 17))), ((r 18), .inl (cI, 30, .inl (F 18))), ((r 19), .inl (cI, 30, .inl (F 19))), ((r 20), .inl (cI, 30, .inl (F 20))), ((r 21), .inl (cI, 30, .inl (F 21))), ((r 22), .inl (cI, 30, .inl (F 22))), ((r 23), .inl (cI, 30, .inl (F 23))), ((r 24), .inl (cI, 30, .inl (F 24))), ((r 25), .inl (cI, 780, .inl (F 25))), ((r 28), .inl (cI, 5, .inl (F 28))), ((r 29), .inl (cI, 18000, .inl (F 29))), ((r 26), .inl (cB, 27000, .inl (F 26))), ((r 27), .inl (cI, 27000, .inl (F 27))), ((r 6), .inl (cI, 5, .inl u6)), ((r 7), .inl (cI, 5, .inl u9)), ((r 8), .inl (cI, 100, .inl u12)), ((r 9), .inl (cI, 110, .inl u15)), ((r 10), .inl (cI, 110, .inl u18)), ((r 11), .inl (cI, 110, .inl u21))]) (w1 := [((r 12), .inl (cI, 600, .inl u24))]) hP hD [2] [0, 1, 3, 4, 5, 6, 7, 8, 9, 10, 11, 12, 13, 14, 15, 16, 17, 18, 19, 20, 21, 22, 23, 24] rfl rfl (by decide) (by decide) hk1 hFc hP1 hD1
    have hP : va_P (dC, dI) vwCl [((r 0), .inr (8, [.int 0, .ref (r 1), .int 0, .ref (r 3), .ref (r 4), .ref (r 5), .ref (r 6), .ref (r 7), .ref (r 8), .ref (r 9), .ref (r 10), .ref (r 11), .ref (r 12), .ref (r 13), .ref (r 14), .ref (r 15), .ref (r 16), .ref (r 17), .ref (r 18), .ref (r 19), .ref (r 20), .ref (r 21), .ref (r 22), .ref (r 23), .ref (r 24), .ref (r 25), .ref (r 26), .ref (r 27), .ref (r 28), .ref (r 29), .int 0, .int 0, .int 0, .int 0, .int 0, .int 0, .int (-1), .int 0, .int 0, .int 0, .int 0, .int 0, .int 0, .ref (r 43), .ref (r 44), .ref (r 45), .int 0, .ref (r 47)])), ((r 14), .inl (cZ, 2000, .inl g)), ((r 13), .inl (cI, 5, .inl (F 13))), ((r 15), .inl (cI, 80, .inl (F 15))), ((r 16), .inl (cI, 5, .inl (F 16))), ((r 17), .inl (cI, 30, .inl (F 17))), ((r 18), .inl (cI, 30, .inl (F 18))), ((r 19), .inl (cI, 30, .inl (F 19))), ((r 20), .inl (cI, 30, .inl (F 20))), ((r 21), .inl (cI, 30, .inl (F 21))), ((r 22), .inl (cI, 30, .inl (F 22))), ((r 23), .inl (cI, 30, .inl (F 23))), ((r 24), .inl (cI, 30, .inl (F 24))), ((r 25), .inl (cI, 780, .inl (F 25))), ((r 28), .inl (cI, 5, .inl (F 28))), ((r 29), .inl (cI, 18000, .inl (F 29))), ((r 26), .inl (cB, 27000, .inl (F 26))), ((r 27), .inl (cI, 27000, .inl (F 27))), ((r 6), .inl (cI, 5, .inl u6)), ((r 7), .inl (cI, 5, .inl u9)), ((r 8), .inl (cI, 100, .inl u12)), ((r 9), .inl (cI, 110, .inl u15)), ((r 10), .inl (cI, 110, .inl u18)), ((r 11), .inl (cI, 110, .inl u21)), ((r 12), .inl (cI, 600, .inl u24))] H25 := hP
    have hD : va_D A [((r 0), .inr (8, [.int 0, .ref (r 1), .int 0, .ref (r 3), .ref (r 4), .ref (r 5), .ref (r 6), .ref (r 7), .ref (r 8), .ref (r 9), .ref (r 10), .ref (r 11), .ref (r 12), .ref (r 13), .ref (r 14), .ref (r 15), .ref (r 16), .ref (r 17), .ref (r 18), .ref (r 19), .ref (r 20), .ref (r 21), .ref (r 22), .ref (r 23), .ref (r 24), .ref (r 25), .ref (r 26), .ref (r 27), .ref (r 28), .ref (r 29), .int 0, .int 0, .int 0, .int 0, .int 0, .int 0, .int (-1), .int 0, .int 0, .int 0, .int 0, .int 0, .int 0, .ref (r 43), .ref (r 44), .ref (r 45), .int 0, .ref (r 47)])), ((r 14), .inl (cZ, 2000, .inl g)), ((r 13), .inl (cI, 5, .inl (F 13))), ((r 15), .inl (cI, 80, .inl (F 15))), ((r 16), .inl (cI, 5, .inl (F 16))), ((r 17), .inl (cI, 30, .inl (F 17))), ((r 18), .inl (cI, 30, .inl (F 18))), ((r 19), .inl (cI, 30, .inl (F 19))), ((r 20), .inl (cI, 30, .inl (F 20))), ((r 21), .inl (cI, 30, .inl (F 21))), ((r 22), .inl (cI, 30, .inl (F 22))), ((r 23), .inl (cI, 30, .inl (F 23))), ((r 24), .inl (cI, 30, .inl (F 24))), ((r 25), .inl (cI, 780, .inl (F 25))), ((r 28), .inl (cI, 5, .inl (F 28))), ((r 29), .inl (cI, 18000, .inl (F 29))), ((r 26), .inl (cB, 27000, .inl (F 26))), ((r 27), .inl (cI, 27000, .inl (F 27))), ((r 6), .inl (cI, 5, .inl u6)), ((r 7), .inl (cI, 5, .inl u9)), ((r 8), .inl (cI, 100, .inl u12)), ((r 9), .inl (cI, 110, .inl u15)), ((r 10), .inl (cI, 110, .inl u18)), ((r 11), .inl (cI, 110, .inl u21)), ((r 12), .inl (cI, 600, .inl u24))] := hD
    refine lv_aload_n hx hb dX8_copy_192 rfl (lv_at hl 0 rfl) ?_
    refine va_get (D := (dC, dI)) (ci := 8) (v := .ref (r 13)) (C := RX8) (T := TX8) (N := 48) hx hb hts in_m_copy_X8 hown hK hP 0 rfl rfl 13 (by decide) (hts (.fieldLink RX8 46 "DepotMarchModel" "day" "[I") (by decide +kernel)) (fun _ h9 => h9) rfl dX8_copy_193 ?_
    refine lv_iconst (v := 1) hx hb dX8_copy_196 (by decide) ?_
    refine lv_iload_n hx hb dX8_copy_197 rfl (lv_at hl 1 rfl) ?_
    refine lv_iload_n hx hb dX8_copy_198 rfl (lv_at hl 2 rfl) ?_
    have hPc := hP.sub (ws' := [((r 13), .inl (cI, 5, .inl (F 13)))]) [2] rfl
    have hDc := hD.sub (ws' := [((r 13), .inl (cI, 5, .inl (F 13)))]) [2] (by decide) rfl
    have hFc := va_free (wc := [((r 13), .inl (cI, 5, .inl (F 13)))]) hD hS hA [2] rfl
    refine va_callv (va_runS (As := [.ref (r 13), .int 1, .int (nI fr), .int (nI to)]) (rest := []) ⟨hx, hb, hml, hown, hts⟩ ((c_moveInts l dC dI cI cZ cB cJ cP cW (r 13) 5 1 fr to (F 13) H25.size) (by decide) (by omega) (by omega) (by omega)) (va_cwS 4 hts g129_m_copy_moveInts rfl rfl rfl (by decide +kernel) ⟨Nat.le_of_ble_eq_true rfl, Nat.le_of_ble_eq_true rfl⟩) ⟨fbM, fun U hU hW => ⟨rfl, by rw [hU], hE.warm hW, by rw [hU]; exact hPc, hDc.weaken (fun _ _ _ _ => trivial)⟩⟩ rfl rfl hl.1 rfl (lv_room (Nat.le_of_ble_eq_true rfl)) dX8_copy_199 ⟨Nat.le_of_ble_eq_true rfl, Nat.le_of_ble_eq_true rfl⟩) hS (fun q _ h => hFc q h) hFc (fun u27 t H28 locs ht hvm hr26 hB hz1 hk1 hS => ?_)
    obtain ⟨hP1, hD1⟩ := hB
    rw [ht] at hP1
    obtain ⟨hP, hD⟩ := va_join (wr := [((r 0), .inr (8, [.int 0, .ref (r 1), .int 0, .ref (r 3), .ref (r 4), .ref (r 5), .ref (r 6), .ref (r 7), .ref (r 8), .ref (r 9), .ref (r 10), .ref (r 11), .ref (r 12), .ref (r 13), .ref (r 14), .ref (r 15), .ref (r 16), .ref (r 17), .ref (r 18), .ref (r 19), .ref (r 20), .ref (r 21), .ref (r 22), .ref (r 23), .ref (r 24), .ref (r 25), .ref (r 26), .ref (r 27), .ref (r 28), .ref (r 29), .int 0, .int 0, .int 0, .int 0, .int 0, .int 0, .int (-1), .int 0, .int 0, .int 0, .int 0, .int 0, .int 0, .ref (r 43), .ref (r 44), .ref (r 45), .int 0, .ref (r 47)])), ((r 14), .inl (cZ, 2000, .inl g)), ((r 15), .inl (cI, 80, .inl (F 15))), ((r 16), .inl (cI, 5, .inl (F 16))), ((r 17), .inl (cI, 30, .inl (F 17))), ((r 18), .inl (cI, 30, .inl (F 18))), ((r 19), .inl (cI, 30, .inl (F 19))), ((r 20), .inl (cI, 30, .inl (F 20))), ((r 21), .inl (cI, 30, .inl (F 21))), ((r 22), .inl (cI, 30, .inl (F 22))), ((r 23), .inl (cI, 30, .inl (F 23))), ((r 24), .inl (cI, 30, .inl (F 24))), ((r 25), .inl (cI, 780, .inl (F 25))), ((r 28), .inl (cI, 5, .inl (F 28))), ((r 29), .inl (cI, 18000, .inl (F 29))), ((r 26), .inl (cB, 27000, .inl (F 26))), ((r 27), .inl (cI, 27000, .inl (F 27))), ((r 6), .inl (cI, 5, .inl u6)), ((r 7), .inl (cI, 5, .inl u9)), ((r 8), .inl (cI, 100, .inl u12)), ((r 9), .inl (cI, 110, .inl u15)), ((r 10), .inl (cI, 110, .inl u18)), ((r 11), .inl (cI, 110, .inl u21)), ((r 12), .inl (cI, 600, .inl u24))]) (w1 := [((r 13), .inl (cI, 5, .inl u27))]) hP hD [2] [0, 1, 3, 4, 5, 6, 7, 8, 9, 10, 11, 12, 13, 14, 15, 16, 17, 18, 19, 20, 21, 22, 23, 24] rfl rfl (by decide) (by decide) hk1 hFc hP1 hD1
    have hP : va_P (dC, dI) vwCl [((r 0), .inr (8, [.int 0, .ref (r 1), .int 0, .ref (r 3), .ref (r 4), .ref (r 5), .ref (r 6), .ref (r 7), .ref (r 8), .ref (r 9), .ref (r 10), .ref (r 11), .ref (r 12), .ref (r 13), .ref (r 14), .ref (r 15), .ref (r 16), .ref (r 17), .ref (r 18), .ref (r 19), .ref (r 20), .ref (r 21), .ref (r 22), .ref (r 23), .ref (r 24), .ref (r 25), .ref (r 26), .ref (r 27), .ref (r 28), .ref (r 29), .int 0, .int 0, .int 0, .int 0, .int 0, .int 0, .int (-1), .int 0, .int 0, .int 0, .int 0, .int 0, .int 0, .ref (r 43), .ref (r 44), .ref (r 45), .int 0, .ref (r 47)])), ((r 14), .inl (cZ, 2000, .inl g)), ((r 15), .inl (cI, 80, .inl (F 15))), ((r 16), .inl (cI, 5, .inl (F 16))), ((r 17), .inl (cI, 30, .inl (F 17))), ((r 18), .inl (cI, 30, .inl (F 18))), ((r 19), .inl (cI, 30, .inl (F 19))), ((r 20), .inl (cI, 30, .inl (F 20))), ((r 21), .inl (cI, 30, .inl (F 21))), ((r 22), .inl (cI, 30, .inl (F 22))), ((r 23), .inl (cI, 30, .inl (F 23))), ((r 24), .inl (cI, 30, .inl (F 24))), ((r 25), .inl (cI, 780, .inl (F 25))), ((r 28), .inl (cI, 5, .inl (F 28))), ((r 29), .inl (cI, 18000, .inl (F 29))), ((r 26), .inl (cB, 27000, .inl (F 26))), ((r 27), .inl (cI, 27000, .inl (F 27))), ((r 6), .inl (cI, 5, .inl u6)), ((r 7), .inl (cI, 5, .inl u9)), ((r 8), .inl (cI, 100, .inl u12)), ((r 9), .inl (cI, 110, .inl u15)), ((r 10), .inl (cI, 110, .inl u18)), ((r 11), .inl (cI, 110, .inl u21)), ((r 12), .inl (cI, 600, .inl u24)), ((r 13), .inl (cI, 5, .inl u27))] H28 := hP
    have hD : va_D A [((r 0), .inr (8, [.int 0, .ref (r 1), .int 0, .ref (r 3), .ref (r 4), .ref (r 5), .ref (r 6), .ref (r 7), .ref (r 8), .ref (r 9), .ref (r 10), .ref (r 11), .ref (r 12), .ref (r 13), .ref (r 14), .ref (r 15), .ref (r 16), .ref (r 17), .ref (r 18), .ref (r 19), .ref (r 20), .ref (r 21), .ref (r 22), .ref (r 23), .ref (r 24), .ref (r 25), .ref (r 26), .ref (r 27), .ref (r 28), .ref (r 29), .int 0, .int 0, .int 0, .int 0, .int 0, .int 0, .int (-1), .int 0, .int 0, .int 0, .int 0, .int 0, .int 0, .ref (r 43), .ref (r 44), .ref (r 45), .int 0, .ref (r 47)])), ((r 14), .inl (cZ, 2000, .inl g)), ((r 15), .inl (cI, 80, .inl (F 15))), ((r 16), .inl (cI, 5, .inl (F 16))), ((r 17), .inl (cI, 30, .inl (F 17))), ((r 18), .inl (cI, 30, .inl (F 18))), ((r 19), .inl (cI, 30, .inl (F 19))), ((r 20), .inl (cI, 30, .inl (F 20))), ((r 21), .inl (cI, 30, .inl (F 21))), ((r 22), .inl (cI, 30, .inl (F 22))), ((r 23), .inl (cI, 30, .inl (F 23))), ((r 24), .inl (cI, 30, .inl (F 24))), ((r 25), .inl (cI, 780, .inl (F 25))), ((r 28), .inl (cI, 5, .inl (F 28))), ((r 29), .inl (cI, 18000, .inl (F 29))), ((r 26), .inl (cB, 27000, .inl (F 26))), ((r 27), .inl (cI, 27000, .inl (F 27))), ((r 6), .inl (cI, 5, .inl u6)), ((r 7), .inl (cI, 5, .inl u9)), ((r 8), .inl (cI, 100, .inl u12)), ((r 9), .inl (cI, 110, .inl u15)), ((r 10), .inl (cI, 110, .inl u18)), ((r 11), .inl (cI, 110, .inl u21)), ((r 12), .inl (cI, 600, .inl u24)), ((r 13), .inl (cI, 5, .inl u27))] := hD
    refine lv_aload_n hx hb dX8_copy_202 rfl (lv_at hl 0 rfl) ?_
    refine va_get (D := (dC, dI)) (ci := 8) (v := .ref (r 15)) (C := RX8) (T := TX8) (N := 48) hx hb hts in_m_copy_X8 hown hK hP 0 rfl rfl 15 (by decide) (hts (.fieldLink RX8 53 "DepotMarchModel" "letter" "[I") (by decide +kernel)) (fun _ h9 => h9) rfl dX8_copy_203 ?_
    refine lv_bipush (v := 16) hx hb dX8_copy_206 (by decide) ?_
    refine lv_iload_n hx hb dX8_copy_208 rfl (lv_at hl 1 rfl) ?_
    refine lv_iload_n hx hb dX8_copy_209 rfl (lv_at hl 2 rfl) ?_
    have hPc := hP.sub (ws' := [((r 15), .inl (cI, 80, .inl (F 15)))]) [2] rfl
    have hDc := hD.sub (ws' := [((r 15), .inl (cI, 80, .inl (F 15)))]) [2] (by decide) rfl
    have hFc := va_free (wc := [((r 15), .inl (cI, 80, .inl (F 15)))]) hD hS hA [2] rfl
    refine va_callv (va_runS (As := [.ref (r 15), .int 16, .int (nI fr), .int (nI to)]) (rest := []) ⟨hx, hb, hml, hown, hts⟩ ((c_moveInts l dC dI cI cZ cB cJ cP cW (r 15) 80 16 fr to (F 15) H28.size) (by decide) (by omega) (by omega) (by omega)) (va_cwS 4 hts g129_m_copy_moveInts rfl rfl rfl (by decide +kernel) ⟨Nat.le_of_ble_eq_true rfl, Nat.le_of_ble_eq_true rfl⟩) ⟨fbM, fun U hU hW => ⟨rfl, by rw [hU], hE.warm hW, by rw [hU]; exact hPc, hDc.weaken (fun _ _ _ _ => trivial)⟩⟩ rfl rfl hl.1 rfl (lv_room (Nat.le_of_ble_eq_true rfl)) dX8_copy_210 ⟨Nat.le_of_ble_eq_true rfl, Nat.le_of_ble_eq_true rfl⟩) hS (fun q _ h => hFc q h) hFc (fun u30 t H31 locs ht hvm hr29 hB hz1 hk1 hS => ?_)
    obtain ⟨hP1, hD1⟩ := hB
    rw [ht] at hP1
    obtain ⟨hP, hD⟩ := va_join (wr := [((r 0), .inr (8, [.int 0, .ref (r 1), .int 0, .ref (r 3), .ref (r 4), .ref (r 5), .ref (r 6), .ref (r 7), .ref (r 8), .ref (r 9), .ref (r 10), .ref (r 11), .ref (r 12), .ref (r 13), .ref (r 14), .ref (r 15), .ref (r 16), .ref (r 17), .ref (r 18), .ref (r 19), .ref (r 20), .ref (r 21), .ref (r 22), .ref (r 23), .ref (r 24), .ref (r 25), .ref (r 26), .ref (r 27), .ref (r 28), .ref (r 29), .int 0, .int 0, .int 0, .int 0, .int 0, .int 0, .int (-1), .int 0, .int 0, .int 0, .int 0, .int 0, .int 0, .ref (r 43), .ref (r 44), .ref (r 45), .int 0, .ref (r 47)])), ((r 14), .inl (cZ, 2000, .inl g)), ((r 16), .inl (cI, 5, .inl (F 16))), ((r 17), .inl (cI, 30, .inl (F 17))), ((r 18), .inl (cI, 30, .inl (F 18))), ((r 19), .inl (cI, 30, .inl (F 19))), ((r 20), .inl (cI, 30, .inl (F 20))), ((r 21), .inl (cI, 30, .inl (F 21))), ((r 22), .inl (cI, 30, .inl (F 22))), ((r 23), .inl (cI, 30, .inl (F 23))), ((r 24), .inl (cI, 30, .inl (F 24))), ((r 25), .inl (cI, 780, .inl (F 25))), ((r 28), .inl (cI, 5, .inl (F 28))), ((r 29), .inl (cI, 18000, .inl (F 29))), ((r 26), .inl (cB, 27000, .inl (F 26))), ((r 27), .inl (cI, 27000, .inl (F 27))), ((r 6), .inl (cI, 5, .inl u6)), ((r 7), .inl (cI, 5, .inl u9)), ((r 8), .inl (cI, 100, .inl u12)), ((r 9), .inl (cI, 110, .inl u15)), ((r 10), .inl (cI, 110, .inl u18)), ((r 11), .inl (cI, 110, .inl u21)), ((r 12), .inl (cI, 600, .inl u24)), ((r 13), .inl (cI, 5, .inl u27))]) (w1 := [((r 15), .inl (cI, 80, .inl u30))]) hP hD [2] [0, 1, 3, 4, 5, 6, 7, 8, 9, 10, 11, 12, 13, 14, 15, 16, 17, 18, 19, 20, 21, 22, 23, 24] rfl rfl (by decide) (by decide) hk1 hFc hP1 hD1
    have hP : va_P (dC, dI) vwCl [((r 0), .inr (8, [.int 0, .ref (r 1), .int 0, .ref (r 3), .ref (r 4), .ref (r 5), .ref (r 6), .ref (r 7), .ref (r 8), .ref (r 9), .ref (r 10), .ref (r 11), .ref (r 12), .ref (r 13), .ref (r 14), .ref (r 15), .ref (r 16), .ref (r 17), .ref (r 18), .ref (r 19), .ref (r 20), .ref (r 21), .ref (r 22), .ref (r 23), .ref (r 24), .ref (r 25), .ref (r 26), .ref (r 27), .ref (r 28), .ref (r 29), .int 0, .int 0, .int 0, .int 0, .int 0, .int 0, .int (-1), .int 0, .int 0, .int 0, .int 0, .int 0, .int 0, .ref (r 43), .ref (r 44), .ref (r 45), .int 0, .ref (r 47)])), ((r 14), .inl (cZ, 2000, .inl g)), ((r 16), .inl (cI, 5, .inl (F 16))), ((r 17), .inl (cI, 30, .inl (F 17))), ((r 18), .inl (cI, 30, .inl (F 18))), ((r 19), .inl (cI, 30, .inl (F 19))), ((r 20), .inl (cI, 30, .inl (F 20))), ((r 21), .inl (cI, 30, .inl (F 21))), ((r 22), .inl (cI, 30, .inl (F 22))), ((r 23), .inl (cI, 30, .inl (F 23))), ((r 24), .inl (cI, 30, .inl (F 24))), ((r 25), .inl (cI, 780, .inl (F 25))), ((r 28), .inl (cI, 5, .inl (F 28))), ((r 29), .inl (cI, 18000, .inl (F 29))), ((r 26), .inl (cB, 27000, .inl (F 26))), ((r 27), .inl (cI, 27000, .inl (F 27))), ((r 6), .inl (cI, 5, .inl u6)), ((r 7), .inl (cI, 5, .inl u9)), ((r 8), .inl (cI, 100, .inl u12)), ((r 9), .inl (cI, 110, .inl u15)), ((r 10), .inl (cI, 110, .inl u18)), ((r 11), .inl (cI, 110, .inl u21)), ((r 12), .inl (cI, 600, .inl u24)), ((r 13), .inl (cI, 5, .inl u27)), ((r 15), .inl (cI, 80, .inl u30))] H31 := hP
    have hD : va_D A [((r 0), .inr (8, [.int 0, .ref (r 1), .int 0, .ref (r 3), .ref (r 4), .ref (r 5), .ref (r 6), .ref (r 7), .ref (r 8), .ref (r 9), .ref (r 10), .ref (r 11), .ref (r 12), .ref (r 13), .ref (r 14), .ref (r 15), .ref (r 16), .ref (r 17), .ref (r 18), .ref (r 19), .ref (r 20), .ref (r 21), .ref (r 22), .ref (r 23), .ref (r 24), .ref (r 25), .ref (r 26), .ref (r 27), .ref (r 28), .ref (r 29), .int 0, .int 0, .int 0, .int 0, .int 0, .int 0, .int (-1), .int 0, .int 0, .int 0, .int 0, .int 0, .int 0, .ref (r 43), .ref (r 44), .ref (r 45), .int 0, .ref (r 47)])), ((r 14), .inl (cZ, 2000, .inl g)), ((r 16), .inl (cI, 5, .inl (F 16))), ((r 17), .inl (cI, 30, .inl (F 17))), ((r 18), .inl (cI, 30, .inl (F 18))), ((r 19), .inl (cI, 30, .inl (F 19))), ((r 20), .inl (cI, 30, .inl (F 20))), ((r 21), .inl (cI, 30, .inl (F 21))), ((r 22), .inl (cI, 30, .inl (F 22))), ((r 23), .inl (cI, 30, .inl (F 23))), ((r 24), .inl (cI, 30, .inl (F 24))), ((r 25), .inl (cI, 780, .inl (F 25))), ((r 28), .inl (cI, 5, .inl (F 28))), ((r 29), .inl (cI, 18000, .inl (F 29))), ((r 26), .inl (cB, 27000, .inl (F 26))), ((r 27), .inl (cI, 27000, .inl (F 27))), ((r 6), .inl (cI, 5, .inl u6)), ((r 7), .inl (cI, 5, .inl u9)), ((r 8), .inl (cI, 100, .inl u12)), ((r 9), .inl (cI, 110, .inl u15)), ((r 10), .inl (cI, 110, .inl u18)), ((r 11), .inl (cI, 110, .inl u21)), ((r 12), .inl (cI, 600, .inl u24)), ((r 13), .inl (cI, 5, .inl u27)), ((r 15), .inl (cI, 80, .inl u30))] := hD
    refine lv_aload_n hx hb dX8_copy_213 rfl (lv_at hl 0 rfl) ?_
    refine va_get (D := (dC, dI)) (ci := 8) (v := .ref (r 16)) (C := RX8) (T := TX8) (N := 48) hx hb hts in_m_copy_X8 hown hK hP 0 rfl rfl 16 (by decide) (hts (.fieldLink RX8 56 "DepotMarchModel" "parties" "[I") (by decide +kernel)) (fun _ h9 => h9) rfl dX8_copy_214 ?_
    refine lv_iconst (v := 1) hx hb dX8_copy_217 (by decide) ?_
    refine lv_iload_n hx hb dX8_copy_218 rfl (lv_at hl 1 rfl) ?_
    refine lv_iload_n hx hb dX8_copy_219 rfl (lv_at hl 2 rfl) ?_
    have hPc := hP.sub (ws' := [((r 16), .inl (cI, 5, .inl (F 16)))]) [2] rfl
    have hDc := hD.sub (ws' := [((r 16), .inl (cI, 5, .inl (F 16)))]) [2] (by decide) rfl
    have hFc := va_free (wc := [((r 16), .inl (cI, 5, .inl (F 16)))]) hD hS hA [2] rfl
    refine va_callv (va_runS (As := [.ref (r 16), .int 1, .int (nI fr), .int (nI to)]) (rest := []) ⟨hx, hb, hml, hown, hts⟩ ((c_moveInts l dC dI cI cZ cB cJ cP cW (r 16) 5 1 fr to (F 16) H31.size) (by decide) (by omega) (by omega) (by omega)) (va_cwS 4 hts g129_m_copy_moveInts rfl rfl rfl (by decide +kernel) ⟨Nat.le_of_ble_eq_true rfl, Nat.le_of_ble_eq_true rfl⟩) ⟨fbM, fun U hU hW => ⟨rfl, by rw [hU], hE.warm hW, by rw [hU]; exact hPc, hDc.weaken (fun _ _ _ _ => trivial)⟩⟩ rfl rfl hl.1 rfl (lv_room (Nat.le_of_ble_eq_true rfl)) dX8_copy_220 ⟨Nat.le_of_ble_eq_true rfl, Nat.le_of_ble_eq_true rfl⟩) hS (fun q _ h => hFc q h) hFc (fun u33 t H34 locs ht hvm hr32 hB hz1 hk1 hS => ?_)
    obtain ⟨hP1, hD1⟩ := hB
    rw [ht] at hP1
    obtain ⟨hP, hD⟩ := va_join (wr := [((r 0), .inr (8, [.int 0, .ref (r 1), .int 0, .ref (r 3), .ref (r 4), .ref (r 5), .ref (r 6), .ref (r 7), .ref (r 8), .ref (r 9), .ref (r 10), .ref (r 11), .ref (r 12), .ref (r 13), .ref (r 14), .ref (r 15), .ref (r 16), .ref (r 17), .ref (r 18), .ref (r 19), .ref (r 20), .ref (r 21), .ref (r 22), .ref (r 23), .ref (r 24), .ref (r 25), .ref (r 26), .ref (r 27), .ref (r 28), .ref (r 29), .int 0, .int 0, .int 0, .int 0, .int 0, .int 0, .int (-1), .int 0, .int 0, .int 0, .int 0, .int 0, .int 0, .ref (r 43), .ref (r 44), .ref (r 45), .int 0, .ref (r 47)])), ((r 14), .inl (cZ, 2000, .inl g)), ((r 17), .inl (cI, 30, .inl (F 17))), ((r 18), .inl (cI, 30, .inl (F 18))), ((r 19), .inl (cI, 30, .inl (F 19))), ((r 20), .inl (cI, 30, .inl (F 20))), ((r 21), .inl (cI, 30, .inl (F 21))), ((r 22), .inl (cI, 30, .inl (F 22))), ((r 23), .inl (cI, 30, .inl (F 23))), ((r 24), .inl (cI, 30, .inl (F 24))), ((r 25), .inl (cI, 780, .inl (F 25))), ((r 28), .inl (cI, 5, .inl (F 28))), ((r 29), .inl (cI, 18000, .inl (F 29))), ((r 26), .inl (cB, 27000, .inl (F 26))), ((r 27), .inl (cI, 27000, .inl (F 27))), ((r 6), .inl (cI, 5, .inl u6)), ((r 7), .inl (cI, 5, .inl u9)), ((r 8), .inl (cI, 100, .inl u12)), ((r 9), .inl (cI, 110, .inl u15)), ((r 10), .inl (cI, 110, .inl u18)), ((r 11), .inl (cI, 110, .inl u21)), ((r 12), .inl (cI, 600, .inl u24)), ((r 13), .inl (cI, 5, .inl u27)), ((r 15), .inl (cI, 80, .inl u30))]) (w1 := [((r 16), .inl (cI, 5, .inl u33))]) hP hD [2] [0, 1, 3, 4, 5, 6, 7, 8, 9, 10, 11, 12, 13, 14, 15, 16, 17, 18, 19, 20, 21, 22, 23, 24] rfl rfl (by decide) (by decide) hk1 hFc hP1 hD1
    have hP : va_P (dC, dI) vwCl [((r 0), .inr (8, [.int 0, .ref (r 1), .int 0, .ref (r 3), .ref (r 4), .ref (r 5), .ref (r 6), .ref (r 7), .ref (r 8), .ref (r 9), .ref (r 10), .ref (r 11), .ref (r 12), .ref (r 13), .ref (r 14), .ref (r 15), .ref (r 16), .ref (r 17), .ref (r 18), .ref (r 19), .ref (r 20), .ref (r 21), .ref (r 22), .ref (r 23), .ref (r 24), .ref (r 25), .ref (r 26), .ref (r 27), .ref (r 28), .ref (r 29), .int 0, .int 0, .int 0, .int 0, .int 0, .int 0, .int (-1), .int 0, .int 0, .int 0, .int 0, .int 0, .int 0, .ref (r 43), .ref (r 44), .ref (r 45), .int 0, .ref (r 47)])), ((r 14), .inl (cZ, 2000, .inl g)), ((r 17), .inl (cI, 30, .inl (F 17))), ((r 18), .inl (cI, 30, .inl (F 18))), ((r 19), .inl (cI, 30, .inl (F 19))), ((r 20), .inl (cI, 30, .inl (F 20))), ((r 21), .inl (cI, 30, .inl (F 21))), ((r 22), .inl (cI, 30, .inl (F 22))), ((r 23), .inl (cI, 30, .inl (F 23))), ((r 24), .inl (cI, 30, .inl (F 24))), ((r 25), .inl (cI, 780, .inl (F 25))), ((r 28), .inl (cI, 5, .inl (F 28))), ((r 29), .inl (cI, 18000, .inl (F 29))), ((r 26), .inl (cB, 27000, .inl (F 26))), ((r 27), .inl (cI, 27000, .inl (F 27))), ((r 6), .inl (cI, 5, .inl u6)), ((r 7), .inl (cI, 5, .inl u9)), ((r 8), .inl (cI, 100, .inl u12)), ((r 9), .inl (cI, 110, .inl u15)), ((r 10), .inl (cI, 110, .inl u18)), ((r 11), .inl (cI, 110, .inl u21)), ((r 12), .inl (cI, 600, .inl u24)), ((r 13), .inl (cI, 5, .inl u27)), ((r 15), .inl (cI, 80, .inl u30)), ((r 16), .inl (cI, 5, .inl u33))] H34 := hP
    have hD : va_D A [((r 0), .inr (8, [.int 0, .ref (r 1), .int 0, .ref (r 3), .ref (r 4), .ref (r 5), .ref (r 6), .ref (r 7), .ref (r 8), .ref (r 9), .ref (r 10), .ref (r 11), .ref (r 12), .ref (r 13), .ref (r 14), .ref (r 15), .ref (r 16), .ref (r 17), .ref (r 18), .ref (r 19), .ref (r 20), .ref (r 21), .ref (r 22), .ref (r 23), .ref (r 24), .ref (r 25), .ref (r 26), .ref (r 27), .ref (r 28), .ref (r 29), .int 0, .int 0, .int 0, .int 0, .int 0, .int 0, .int (-1), .int 0, .int 0, .int 0, .int 0, .int 0, .int 0, .ref (r 43), .ref (r 44), .ref (r 45), .int 0, .ref (r 47)])), ((r 14), .inl (cZ, 2000, .inl g)), ((r 17), .inl (cI, 30, .inl (F 17))), ((r 18), .inl (cI, 30, .inl (F 18))), ((r 19), .inl (cI, 30, .inl (F 19))), ((r 20), .inl (cI, 30, .inl (F 20))), ((r 21), .inl (cI, 30, .inl (F 21))), ((r 22), .inl (cI, 30, .inl (F 22))), ((r 23), .inl (cI, 30, .inl (F 23))), ((r 24), .inl (cI, 30, .inl (F 24))), ((r 25), .inl (cI, 780, .inl (F 25))), ((r 28), .inl (cI, 5, .inl (F 28))), ((r 29), .inl (cI, 18000, .inl (F 29))), ((r 26), .inl (cB, 27000, .inl (F 26))), ((r 27), .inl (cI, 27000, .inl (F 27))), ((r 6), .inl (cI, 5, .inl u6)), ((r 7), .inl (cI, 5, .inl u9)), ((r 8), .inl (cI, 100, .inl u12)), ((r 9), .inl (cI, 110, .inl u15)), ((r 10), .inl (cI, 110, .inl u18)), ((r 11), .inl (cI, 110, .inl u21)), ((r 12), .inl (cI, 600, .inl u24)), ((r 13), .inl (cI, 5, .inl u27)), ((r 15), .inl (cI, 80, .inl u30)), ((r 16), .inl (cI, 5, .inl u33))] := hD
    refine lv_aload_n hx hb dX8_copy_223 rfl (lv_at hl 0 rfl) ?_
    refine va_get (D := (dC, dI)) (ci := 8) (v := .ref (r 17)) (C := RX8) (T := TX8) (N := 48) hx hb hts in_m_copy_X8 hown hK hP 0 rfl rfl 17 (by decide) (hts (.fieldLink RX8 59 "DepotMarchModel" "men" "[I") (by decide +kernel)) (fun _ h9 => h9) rfl dX8_copy_224 ?_
    refine lv_bipush (v := 6) hx hb dX8_copy_227 (by decide) ?_
    refine lv_iload_n hx hb dX8_copy_229 rfl (lv_at hl 1 rfl) ?_
    refine lv_iload_n hx hb dX8_copy_230 rfl (lv_at hl 2 rfl) ?_
    have hPc := hP.sub (ws' := [((r 17), .inl (cI, 30, .inl (F 17)))]) [2] rfl
    have hDc := hD.sub (ws' := [((r 17), .inl (cI, 30, .inl (F 17)))]) [2] (by decide) rfl
    have hFc := va_free (wc := [((r 17), .inl (cI, 30, .inl (F 17)))]) hD hS hA [2] rfl
    refine va_callv (va_runS (As := [.ref (r 17), .int 6, .int (nI fr), .int (nI to)]) (rest := []) ⟨hx, hb, hml, hown, hts⟩ ((c_moveInts l dC dI cI cZ cB cJ cP cW (r 17) 30 6 fr to (F 17) H34.size) (by decide) (by omega) (by omega) (by omega)) (va_cwS 4 hts g129_m_copy_moveInts rfl rfl rfl (by decide +kernel) ⟨Nat.le_of_ble_eq_true rfl, Nat.le_of_ble_eq_true rfl⟩) ⟨fbM, fun U hU hW => ⟨rfl, by rw [hU], hE.warm hW, by rw [hU]; exact hPc, hDc.weaken (fun _ _ _ _ => trivial)⟩⟩ rfl rfl hl.1 rfl (lv_room (Nat.le_of_ble_eq_true rfl)) dX8_copy_231 ⟨Nat.le_of_ble_eq_true rfl, Nat.le_of_ble_eq_true rfl⟩) hS (fun q _ h => hFc q h) hFc (fun u36 t H37 locs ht hvm hr35 hB hz1 hk1 hS => ?_)
    obtain ⟨hP1, hD1⟩ := hB
    rw [ht] at hP1
    obtain ⟨hP, hD⟩ := va_join (wr := [((r 0), .inr (8, [.int 0, .ref (r 1), .int 0, .ref (r 3), .ref (r 4), .ref (r 5), .ref (r 6), .ref (r 7), .ref (r 8), .ref (r 9), .ref (r 10), .ref (r 11), .ref (r 12), .ref (r 13), .ref (r 14), .ref (r 15), .ref (r 16), .ref (r 17), .ref (r 18), .ref (r 19), .ref (r 20), .ref (r 21), .ref (r 22), .ref (r 23), .ref (r 24), .ref (r 25), .ref (r 26), .ref (r 27), .ref (r 28), .ref (r 29), .int 0, .int 0, .int 0, .int 0, .int 0, .int 0, .int (-1), .int 0, .int 0, .int 0, .int 0, .int 0, .int 0, .ref (r 43), .ref (r 44), .ref (r 45), .int 0, .ref (r 47)])), ((r 14), .inl (cZ, 2000, .inl g)), ((r 18), .inl (cI, 30, .inl (F 18))), ((r 19), .inl (cI, 30, .inl (F 19))), ((r 20), .inl (cI, 30, .inl (F 20))), ((r 21), .inl (cI, 30, .inl (F 21))), ((r 22), .inl (cI, 30, .inl (F 22))), ((r 23), .inl (cI, 30, .inl (F 23))), ((r 24), .inl (cI, 30, .inl (F 24))), ((r 25), .inl (cI, 780, .inl (F 25))), ((r 28), .inl (cI, 5, .inl (F 28))), ((r 29), .inl (cI, 18000, .inl (F 29))), ((r 26), .inl (cB, 27000, .inl (F 26))), ((r 27), .inl (cI, 27000, .inl (F 27))), ((r 6), .inl (cI, 5, .inl u6)), ((r 7), .inl (cI, 5, .inl u9)), ((r 8), .inl (cI, 100, .inl u12)), ((r 9), .inl (cI, 110, .inl u15)), ((r 10), .inl (cI, 110, .inl u18)), ((r 11), .inl (cI, 110, .inl u21)), ((r 12), .inl (cI, 600, .inl u24)), ((r 13), .inl (cI, 5, .inl u27)), ((r 15), .inl (cI, 80, .inl u30)), ((r 16), .inl (cI, 5, .inl u33))]) (w1 := [((r 17), .inl (cI, 30, .inl u36))]) hP hD [2] [0, 1, 3, 4, 5, 6, 7, 8, 9, 10, 11, 12, 13, 14, 15, 16, 17, 18, 19, 20, 21, 22, 23, 24] rfl rfl (by decide) (by decide) hk1 hFc hP1 hD1
    have hP : va_P (dC, dI) vwCl [((r 0), .inr (8, [.int 0, .ref (r 1), .int 0, .ref (r 3), .ref (r 4), .ref (r 5), .ref (r 6), .ref (r 7), .ref (r 8), .ref (r 9), .ref (r 10), .ref (r 11), .ref (r 12), .ref (r 13), .ref (r 14), .ref (r 15), .ref (r 16), .ref (r 17), .ref (r 18), .ref (r 19), .ref (r 20), .ref (r 21), .ref (r 22), .ref (r 23), .ref (r 24), .ref (r 25), .ref (r 26), .ref (r 27), .ref (r 28), .ref (r 29), .int 0, .int 0, .int 0, .int 0, .int 0, .int 0, .int (-1), .int 0, .int 0, .int 0, .int 0, .int 0, .int 0, .ref (r 43), .ref (r 44), .ref (r 45), .int 0, .ref (r 47)])), ((r 14), .inl (cZ, 2000, .inl g)), ((r 18), .inl (cI, 30, .inl (F 18))), ((r 19), .inl (cI, 30, .inl (F 19))), ((r 20), .inl (cI, 30, .inl (F 20))), ((r 21), .inl (cI, 30, .inl (F 21))), ((r 22), .inl (cI, 30, .inl (F 22))), ((r 23), .inl (cI, 30, .inl (F 23))), ((r 24), .inl (cI, 30, .inl (F 24))), ((r 25), .inl (cI, 780, .inl (F 25))), ((r 28), .inl (cI, 5, .inl (F 28))), ((r 29), .inl (cI, 18000, .inl (F 29))), ((r 26), .inl (cB, 27000, .inl (F 26))), ((r 27), .inl (cI, 27000, .inl (F 27))), ((r 6), .inl (cI, 5, .inl u6)), ((r 7), .inl (cI, 5, .inl u9)), ((r 8), .inl (cI, 100, .inl u12)), ((r 9), .inl (cI, 110, .inl u15)), ((r 10), .inl (cI, 110, .inl u18)), ((r 11), .inl (cI, 110, .inl u21)), ((r 12), .inl (cI, 600, .inl u24)), ((r 13), .inl (cI, 5, .inl u27)), ((r 15), .inl (cI, 80, .inl u30)), ((r 16), .inl (cI, 5, .inl u33)), ((r 17), .inl (cI, 30, .inl u36))] H37 := hP
    have hD : va_D A [((r 0), .inr (8, [.int 0, .ref (r 1), .int 0, .ref (r 3), .ref (r 4), .ref (r 5), .ref (r 6), .ref (r 7), .ref (r 8), .ref (r 9), .ref (r 10), .ref (r 11), .ref (r 12), .ref (r 13), .ref (r 14), .ref (r 15), .ref (r 16), .ref (r 17), .ref (r 18), .ref (r 19), .ref (r 20), .ref (r 21), .ref (r 22), .ref (r 23), .ref (r 24), .ref (r 25), .ref (r 26), .ref (r 27), .ref (r 28), .ref (r 29), .int 0, .int 0, .int 0, .int 0, .int 0, .int 0, .int (-1), .int 0, .int 0, .int 0, .int 0, .int 0, .int 0, .ref (r 43), .ref (r 44), .ref (r 45), .int 0, .ref (r 47)])), ((r 14), .inl (cZ, 2000, .inl g)), ((r 18), .inl (cI, 30, .inl (F 18))), ((r 19), .inl (cI, 30, .inl (F 19))), ((r 20), .inl (cI, 30, .inl (F 20))), ((r 21), .inl (cI, 30, .inl (F 21))), ((r 22), .inl (cI, 30, .inl (F 22))), ((r 23), .inl (cI, 30, .inl (F 23))), ((r 24), .inl (cI, 30, .inl (F 24))), ((r 25), .inl (cI, 780, .inl (F 25))), ((r 28), .inl (cI, 5, .inl (F 28))), ((r 29), .inl (cI, 18000, .inl (F 29))), ((r 26), .inl (cB, 27000, .inl (F 26))), ((r 27), .inl (cI, 27000, .inl (F 27))), ((r 6), .inl (cI, 5, .inl u6)), ((r 7), .inl (cI, 5, .inl u9)), ((r 8), .inl (cI, 100, .inl u12)), ((r 9), .inl (cI, 110, .inl u15)), ((r 10), .inl (cI, 110, .inl u18)), ((r 11), .inl (cI, 110, .inl u21)), ((r 12), .inl (cI, 600, .inl u24)), ((r 13), .inl (cI, 5, .inl u27)), ((r 15), .inl (cI, 80, .inl u30)), ((r 16), .inl (cI, 5, .inl u33)), ((r 17), .inl (cI, 30, .inl u36))] := hD
    refine lv_aload_n hx hb dX8_copy_234 rfl (lv_at hl 0 rfl) ?_
    refine va_get (D := (dC, dI)) (ci := 8) (v := .ref (r 18)) (C := RX8) (T := TX8) (N := 48) hx hb hts in_m_copy_X8 hown hK hP 0 rfl rfl 18 (by decide) (hts (.fieldLink RX8 62 "DepotMarchModel" "carry" "[I") (by decide +kernel)) (fun _ h9 => h9) rfl dX8_copy_235 ?_
    refine lv_bipush (v := 6) hx hb dX8_copy_238 (by decide) ?_
    refine lv_iload_n hx hb dX8_copy_240 rfl (lv_at hl 1 rfl) ?_
    refine lv_iload_n hx hb dX8_copy_241 rfl (lv_at hl 2 rfl) ?_
    have hPc := hP.sub (ws' := [((r 18), .inl (cI, 30, .inl (F 18)))]) [2] rfl
    have hDc := hD.sub (ws' := [((r 18), .inl (cI, 30, .inl (F 18)))]) [2] (by decide) rfl
    have hFc := va_free (wc := [((r 18), .inl (cI, 30, .inl (F 18)))]) hD hS hA [2] rfl
    refine va_callv (va_runS (As := [.ref (r 18), .int 6, .int (nI fr), .int (nI to)]) (rest := []) ⟨hx, hb, hml, hown, hts⟩ ((c_moveInts l dC dI cI cZ cB cJ cP cW (r 18) 30 6 fr to (F 18) H37.size) (by decide) (by omega) (by omega) (by omega)) (va_cwS 4 hts g129_m_copy_moveInts rfl rfl rfl (by decide +kernel) ⟨Nat.le_of_ble_eq_true rfl, Nat.le_of_ble_eq_true rfl⟩) ⟨fbM, fun U hU hW => ⟨rfl, by rw [hU], hE.warm hW, by rw [hU]; exact hPc, hDc.weaken (fun _ _ _ _ => trivial)⟩⟩ rfl rfl hl.1 rfl (lv_room (Nat.le_of_ble_eq_true rfl)) dX8_copy_242 ⟨Nat.le_of_ble_eq_true rfl, Nat.le_of_ble_eq_true rfl⟩) hS (fun q _ h => hFc q h) hFc (fun u39 t H40 locs ht hvm hr38 hB hz1 hk1 hS => ?_)
    obtain ⟨hP1, hD1⟩ := hB
    rw [ht] at hP1
    obtain ⟨hP, hD⟩ := va_join (wr := [((r 0), .inr (8, [.int 0, .ref (r 1), .int 0, .ref (r 3), .ref (r 4), .ref (r 5), .ref (r 6), .ref (r 7), .ref (r 8), .ref (r 9), .ref (r 10), .ref (r 11), .ref (r 12), .ref (r 13), .ref (r 14), .ref (r 15), .ref (r 16), .ref (r 17), .ref (r 18), .ref (r 19), .ref (r 20), .ref (r 21), .ref (r 22), .ref (r 23), .ref (r 24), .ref (r 25), .ref (r 26), .ref (r 27), .ref (r 28), .ref (r 29), .int 0, .int 0, .int 0, .int 0, .int 0, .int 0, .int (-1), .int 0, .int 0, .int 0, .int 0, .int 0, .int 0, .ref (r 43), .ref (r 44), .ref (r 45), .int 0, .ref (r 47)])), ((r 14), .inl (cZ, 2000, .inl g)), ((r 19), .inl (cI, 30, .inl (F 19))), ((r 20), .inl (cI, 30, .inl (F 20))), ((r 21), .inl (cI, 30, .inl (F 21))), ((r 22), .inl (cI, 30, .inl (F 22))), ((r 23), .inl (cI, 30, .inl (F 23))), ((r 24), .inl (cI, 30, .inl (F 24))), ((r 25), .inl (cI, 780, .inl (F 25))), ((r 28), .inl (cI, 5, .inl (F 28))), ((r 29), .inl (cI, 18000, .inl (F 29))), ((r 26), .inl (cB, 27000, .inl (F 26))), ((r 27), .inl (cI, 27000, .inl (F 27))), ((r 6), .inl (cI, 5, .inl u6)), ((r 7), .inl (cI, 5, .inl u9)), ((r 8), .inl (cI, 100, .inl u12)), ((r 9), .inl (cI, 110, .inl u15)), ((r 10), .inl (cI, 110, .inl u18)), ((r 11), .inl (cI, 110, .inl u21)), ((r 12), .inl (cI, 600, .inl u24)), ((r 13), .inl (cI, 5, .inl u27)), ((r 15), .inl (cI, 80, .inl u30)), ((r 16), .inl (cI, 5, .inl u33)), ((r 17), .inl (cI, 30, .inl u36))]) (w1 := [((r 18), .inl (cI, 30, .inl u39))]) hP hD [2] [0, 1, 3, 4, 5, 6, 7, 8, 9, 10, 11, 12, 13, 14, 15, 16, 17, 18, 19, 20, 21, 22, 23, 24] rfl rfl (by decide) (by decide) hk1 hFc hP1 hD1
    have hP : va_P (dC, dI) vwCl [((r 0), .inr (8, [.int 0, .ref (r 1), .int 0, .ref (r 3), .ref (r 4), .ref (r 5), .ref (r 6), .ref (r 7), .ref (r 8), .ref (r 9), .ref (r 10), .ref (r 11), .ref (r 12), .ref (r 13), .ref (r 14), .ref (r 15), .ref (r 16), .ref (r 17), .ref (r 18), .ref (r 19), .ref (r 20), .ref (r 21), .ref (r 22), .ref (r 23), .ref (r 24), .ref (r 25), .ref (r 26), .ref (r 27), .ref (r 28), .ref (r 29), .int 0, .int 0, .int 0, .int 0, .int 0, .int 0, .int (-1), .int 0, .int 0, .int 0, .int 0, .int 0, .int 0, .ref (r 43), .ref (r 44), .ref (r 45), .int 0, .ref (r 47)])), ((r 14), .inl (cZ, 2000, .inl g)), ((r 19), .inl (cI, 30, .inl (F 19))), ((r 20), .inl (cI, 30, .inl (F 20))), ((r 21), .inl (cI, 30, .inl (F 21))), ((r 22), .inl (cI, 30, .inl (F 22))), ((r 23), .inl (cI, 30, .inl (F 23))), ((r 24), .inl (cI, 30, .inl (F 24))), ((r 25), .inl (cI, 780, .inl (F 25))), ((r 28), .inl (cI, 5, .inl (F 28))), ((r 29), .inl (cI, 18000, .inl (F 29))), ((r 26), .inl (cB, 27000, .inl (F 26))), ((r 27), .inl (cI, 27000, .inl (F 27))), ((r 6), .inl (cI, 5, .inl u6)), ((r 7), .inl (cI, 5, .inl u9)), ((r 8), .inl (cI, 100, .inl u12)), ((r 9), .inl (cI, 110, .inl u15)), ((r 10), .inl (cI, 110, .inl u18)), ((r 11), .inl (cI, 110, .inl u21)), ((r 12), .inl (cI, 600, .inl u24)), ((r 13), .inl (cI, 5, .inl u27)), ((r 15), .inl (cI, 80, .inl u30)), ((r 16), .inl (cI, 5, .inl u33)), ((r 17), .inl (cI, 30, .inl u36)), ((r 18), .inl (cI, 30, .inl u39))] H40 := hP
    have hD : va_D A [((r 0), .inr (8, [.int 0, .ref (r 1), .int 0, .ref (r 3), .ref (r 4), .ref (r 5), .ref (r 6), .ref (r 7), .ref (r 8), .ref (r 9), .ref (r 10), .ref (r 11), .ref (r 12), .ref (r 13), .ref (r 14), .ref (r 15), .ref (r 16), .ref (r 17), .ref (r 18), .ref (r 19), .ref (r 20), .ref (r 21), .ref (r 22), .ref (r 23), .ref (r 24), .ref (r 25), .ref (r 26), .ref (r 27), .ref (r 28), .ref (r 29), .int 0, .int 0, .int 0, .int 0, .int 0, .int 0, .int (-1), .int 0, .int 0, .int 0, .int 0, .int 0, .int 0, .ref (r 43), .ref (r 44), .ref (r 45), .int 0, .ref (r 47)])), ((r 14), .inl (cZ, 2000, .inl g)), ((r 19), .inl (cI, 30, .inl (F 19))), ((r 20), .inl (cI, 30, .inl (F 20))), ((r 21), .inl (cI, 30, .inl (F 21))), ((r 22), .inl (cI, 30, .inl (F 22))), ((r 23), .inl (cI, 30, .inl (F 23))), ((r 24), .inl (cI, 30, .inl (F 24))), ((r 25), .inl (cI, 780, .inl (F 25))), ((r 28), .inl (cI, 5, .inl (F 28))), ((r 29), .inl (cI, 18000, .inl (F 29))), ((r 26), .inl (cB, 27000, .inl (F 26))), ((r 27), .inl (cI, 27000, .inl (F 27))), ((r 6), .inl (cI, 5, .inl u6)), ((r 7), .inl (cI, 5, .inl u9)), ((r 8), .inl (cI, 100, .inl u12)), ((r 9), .inl (cI, 110, .inl u15)), ((r 10), .inl (cI, 110, .inl u18)), ((r 11), .inl (cI, 110, .inl u21)), ((r 12), .inl (cI, 600, .inl u24)), ((r 13), .inl (cI, 5, .inl u27)), ((r 15), .inl (cI, 80, .inl u30)), ((r 16), .inl (cI, 5, .inl u33)), ((r 17), .inl (cI, 30, .inl u36)), ((r 18), .inl (cI, 30, .inl u39))] := hD
    refine lv_aload_n hx hb dX8_copy_245 rfl (lv_at hl 0 rfl) ?_
    refine va_get (D := (dC, dI)) (ci := 8) (v := .ref (r 19)) (C := RX8) (T := TX8) (N := 48) hx hb hts in_m_copy_X8 hown hK hP 0 rfl rfl 19 (by decide) (hts (.fieldLink RX8 65 "DepotMarchModel" "campOf" "[I") (by decide +kernel)) (fun _ h9 => h9) rfl dX8_copy_246 ?_
    refine lv_bipush (v := 6) hx hb dX8_copy_249 (by decide) ?_
    refine lv_iload_n hx hb dX8_copy_251 rfl (lv_at hl 1 rfl) ?_
    refine lv_iload_n hx hb dX8_copy_252 rfl (lv_at hl 2 rfl) ?_
    have hPc := hP.sub (ws' := [((r 19), .inl (cI, 30, .inl (F 19)))]) [2] rfl
    have hDc := hD.sub (ws' := [((r 19), .inl (cI, 30, .inl (F 19)))]) [2] (by decide) rfl
    have hFc := va_free (wc := [((r 19), .inl (cI, 30, .inl (F 19)))]) hD hS hA [2] rfl
    refine va_callv (va_runS (As := [.ref (r 19), .int 6, .int (nI fr), .int (nI to)]) (rest := []) ⟨hx, hb, hml, hown, hts⟩ ((c_moveInts l dC dI cI cZ cB cJ cP cW (r 19) 30 6 fr to (F 19) H40.size) (by decide) (by omega) (by omega) (by omega)) (va_cwS 4 hts g129_m_copy_moveInts rfl rfl rfl (by decide +kernel) ⟨Nat.le_of_ble_eq_true rfl, Nat.le_of_ble_eq_true rfl⟩) ⟨fbM, fun U hU hW => ⟨rfl, by rw [hU], hE.warm hW, by rw [hU]; exact hPc, hDc.weaken (fun _ _ _ _ => trivial)⟩⟩ rfl rfl hl.1 rfl (lv_room (Nat.le_of_ble_eq_true rfl)) dX8_copy_253 ⟨Nat.le_of_ble_eq_true rfl, Nat.le_of_ble_eq_true rfl⟩) hS (fun q _ h => hFc q h) hFc (fun u42 t H43 locs ht hvm hr41 hB hz1 hk1 hS => ?_)
    obtain ⟨hP1, hD1⟩ := hB
    rw [ht] at hP1
    obtain ⟨hP, hD⟩ := va_join (wr := [((r 0), .inr (8, [.int 0, .ref (r 1), .int 0, .ref (r 3), .ref (r 4), .ref (r 5), .ref (r 6), .ref (r 7), .ref (r 8), .ref (r 9), .ref (r 10), .ref (r 11), .ref (r 12), .ref (r 13), .ref (r 14), .ref (r 15), .ref (r 16), .ref (r 17), .ref (r 18), .ref (r 19), .ref (r 20), .ref (r 21), .ref (r 22), .ref (r 23), .ref (r 24), .ref (r 25), .ref (r 26), .ref (r 27), .ref (r 28), .ref (r 29), .int 0, .int 0, .int 0, .int 0, .int 0, .int 0, .int (-1), .int 0, .int 0, .int 0, .int 0, .int 0, .int 0, .ref (r 43), .ref (r 44), .ref (r 45), .int 0, .ref (r 47)])), ((r 14), .inl (cZ, 2000, .inl g)), ((r 20), .inl (cI, 30, .inl (F 20))), ((r 21), .inl (cI, 30, .inl (F 21))), ((r 22), .inl (cI, 30, .inl (F 22))), ((r 23), .inl (cI, 30, .inl (F 23))), ((r 24), .inl (cI, 30, .inl (F 24))), ((r 25), .inl (cI, 780, .inl (F 25))), ((r 28), .inl (cI, 5, .inl (F 28))), ((r 29), .inl (cI, 18000, .inl (F 29))), ((r 26), .inl (cB, 27000, .inl (F 26))), ((r 27), .inl (cI, 27000, .inl (F 27))), ((r 6), .inl (cI, 5, .inl u6)), ((r 7), .inl (cI, 5, .inl u9)), ((r 8), .inl (cI, 100, .inl u12)), ((r 9), .inl (cI, 110, .inl u15)), ((r 10), .inl (cI, 110, .inl u18)), ((r 11), .inl (cI, 110, .inl u21)), ((r 12), .inl (cI, 600, .inl u24)), ((r 13), .inl (cI, 5, .inl u27)), ((r 15), .inl (cI, 80, .inl u30)), ((r 16), .inl (cI, 5, .inl u33)), ((r 17), .inl (cI, 30, .inl u36)), ((r 18), .inl (cI, 30, .inl u39))]) (w1 := [((r 19), .inl (cI, 30, .inl u42))]) hP hD [2] [0, 1, 3, 4, 5, 6, 7, 8, 9, 10, 11, 12, 13, 14, 15, 16, 17, 18, 19, 20, 21, 22, 23, 24] rfl rfl (by decide) (by decide) hk1 hFc hP1 hD1
    have hP : va_P (dC, dI) vwCl [((r 0), .inr (8, [.int 0, .ref (r 1), .int 0, .ref (r 3), .ref (r 4), .ref (r 5), .ref (r 6), .ref (r 7), .ref (r 8), .ref (r 9), .ref (r 10), .ref (r 11), .ref (r 12), .ref (r 13), .ref (r 14), .ref (r 15), .ref (r 16), .ref (r 17), .ref (r 18), .ref (r 19), .ref (r 20), .ref (r 21), .ref (r 22), .ref (r 23), .ref (r 24), .ref (r 25), .ref (r 26), .ref (r 27), .ref (r 28), .ref (r 29), .int 0, .int 0, .int 0, .int 0, .int 0, .int 0, .int (-1), .int 0, .int 0, .int 0, .int 0, .int 0, .int 0, .ref (r 43), .ref (r 44), .ref (r 45), .int 0, .ref (r 47)])), ((r 14), .inl (cZ, 2000, .inl g)), ((r 20), .inl (cI, 30, .inl (F 20))), ((r 21), .inl (cI, 30, .inl (F 21))), ((r 22), .inl (cI, 30, .inl (F 22))), ((r 23), .inl (cI, 30, .inl (F 23))), ((r 24), .inl (cI, 30, .inl (F 24))), ((r 25), .inl (cI, 780, .inl (F 25))), ((r 28), .inl (cI, 5, .inl (F 28))), ((r 29), .inl (cI, 18000, .inl (F 29))), ((r 26), .inl (cB, 27000, .inl (F 26))), ((r 27), .inl (cI, 27000, .inl (F 27))), ((r 6), .inl (cI, 5, .inl u6)), ((r 7), .inl (cI, 5, .inl u9)), ((r 8), .inl (cI, 100, .inl u12)), ((r 9), .inl (cI, 110, .inl u15)), ((r 10), .inl (cI, 110, .inl u18)), ((r 11), .inl (cI, 110, .inl u21)), ((r 12), .inl (cI, 600, .inl u24)), ((r 13), .inl (cI, 5, .inl u27)), ((r 15), .inl (cI, 80, .inl u30)), ((r 16), .inl (cI, 5, .inl u33)), ((r 17), .inl (cI, 30, .inl u36)), ((r 18), .inl (cI, 30, .inl u39)), ((r 19), .inl (cI, 30, .inl u42))] H43 := hP
    have hD : va_D A [((r 0), .inr (8, [.int 0, .ref (r 1), .int 0, .ref (r 3), .ref (r 4), .ref (r 5), .ref (r 6), .ref (r 7), .ref (r 8), .ref (r 9), .ref (r 10), .ref (r 11), .ref (r 12), .ref (r 13), .ref (r 14), .ref (r 15), .ref (r 16), .ref (r 17), .ref (r 18), .ref (r 19), .ref (r 20), .ref (r 21), .ref (r 22), .ref (r 23), .ref (r 24), .ref (r 25), .ref (r 26), .ref (r 27), .ref (r 28), .ref (r 29), .int 0, .int 0, .int 0, .int 0, .int 0, .int 0, .int (-1), .int 0, .int 0, .int 0, .int 0, .int 0, .int 0, .ref (r 43), .ref (r 44), .ref (r 45), .int 0, .ref (r 47)])), ((r 14), .inl (cZ, 2000, .inl g)), ((r 20), .inl (cI, 30, .inl (F 20))), ((r 21), .inl (cI, 30, .inl (F 21))), ((r 22), .inl (cI, 30, .inl (F 22))), ((r 23), .inl (cI, 30, .inl (F 23))), ((r 24), .inl (cI, 30, .inl (F 24))), ((r 25), .inl (cI, 780, .inl (F 25))), ((r 28), .inl (cI, 5, .inl (F 28))), ((r 29), .inl (cI, 18000, .inl (F 29))), ((r 26), .inl (cB, 27000, .inl (F 26))), ((r 27), .inl (cI, 27000, .inl (F 27))), ((r 6), .inl (cI, 5, .inl u6)), ((r 7), .inl (cI, 5, .inl u9)), ((r 8), .inl (cI, 100, .inl u12)), ((r 9), .inl (cI, 110, .inl u15)), ((r 10), .inl (cI, 110, .inl u18)), ((r 11), .inl (cI, 110, .inl u21)), ((r 12), .inl (cI, 600, .inl u24)), ((r 13), .inl (cI, 5, .inl u27)), ((r 15), .inl (cI, 80, .inl u30)), ((r 16), .inl (cI, 5, .inl u33)), ((r 17), .inl (cI, 30, .inl u36)), ((r 18), .inl (cI, 30, .inl u39)), ((r 19), .inl (cI, 30, .inl u42))] := hD
    refine lv_aload_n hx hb dX8_copy_256 rfl (lv_at hl 0 rfl) ?_
    refine va_get (D := (dC, dI)) (ci := 8) (v := .ref (r 20)) (C := RX8) (T := TX8) (N := 48) hx hb hts in_m_copy_X8 hown hK hP 0 rfl rfl 20 (by decide) (hts (.fieldLink RX8 68 "DepotMarchModel" "hunger" "[I") (by decide +kernel)) (fun _ h9 => h9) rfl dX8_copy_257 ?_
    refine lv_bipush (v := 6) hx hb dX8_copy_260 (by decide) ?_
    refine lv_iload_n hx hb dX8_copy_262 rfl (lv_at hl 1 rfl) ?_
    refine lv_iload_n hx hb dX8_copy_263 rfl (lv_at hl 2 rfl) ?_
    have hPc := hP.sub (ws' := [((r 20), .inl (cI, 30, .inl (F 20)))]) [2] rfl
    have hDc := hD.sub (ws' := [((r 20), .inl (cI, 30, .inl (F 20)))]) [2] (by decide) rfl
    have hFc := va_free (wc := [((r 20), .inl (cI, 30, .inl (F 20)))]) hD hS hA [2] rfl
    refine va_callv (va_runS (As := [.ref (r 20), .int 6, .int (nI fr), .int (nI to)]) (rest := []) ⟨hx, hb, hml, hown, hts⟩ ((c_moveInts l dC dI cI cZ cB cJ cP cW (r 20) 30 6 fr to (F 20) H43.size) (by decide) (by omega) (by omega) (by omega)) (va_cwS 4 hts g129_m_copy_moveInts rfl rfl rfl (by decide +kernel) ⟨Nat.le_of_ble_eq_true rfl, Nat.le_of_ble_eq_true rfl⟩) ⟨fbM, fun U hU hW => ⟨rfl, by rw [hU], hE.warm hW, by rw [hU]; exact hPc, hDc.weaken (fun _ _ _ _ => trivial)⟩⟩ rfl rfl hl.1 rfl (lv_room (Nat.le_of_ble_eq_true rfl)) dX8_copy_264 ⟨Nat.le_of_ble_eq_true rfl, Nat.le_of_ble_eq_true rfl⟩) hS (fun q _ h => hFc q h) hFc (fun u45 t H46 locs ht hvm hr44 hB hz1 hk1 hS => ?_)
    obtain ⟨hP1, hD1⟩ := hB
    rw [ht] at hP1
    obtain ⟨hP, hD⟩ := va_join (wr := [((r 0), .inr (8, [.int 0, .ref (r 1), .int 0, .ref (r 3), .ref (r 4), .ref (r 5), .ref (r 6), .ref (r 7), .ref (r 8), .ref (r 9), .ref (r 10), .ref (r 11), .ref (r 12), .ref (r 13), .ref (r 14), .ref (r 15), .ref (r 16), .ref (r 17), .ref (r 18), .ref (r 19), .ref (r 20), .ref (r 21), .ref (r 22), .ref (r 23), .ref (r 24), .ref (r 25), .ref (r 26), .ref (r 27), .ref (r 28), .ref (r 29), .int 0, .int 0, .int 0, .int 0, .int 0, .int 0, .int (-1), .int 0, .int 0, .int 0, .int 0, .int 0, .int 0, .ref (r 43), .ref (r 44), .ref (r 45), .int 0, .ref (r 47)])), ((r 14), .inl (cZ, 2000, .inl g)), ((r 21), .inl (cI, 30, .inl (F 21))), ((r 22), .inl (cI, 30, .inl (F 22))), ((r 23), .inl (cI, 30, .inl (F 23))), ((r 24), .inl (cI, 30, .inl (F 24))), ((r 25), .inl (cI, 780, .inl (F 25))), ((r 28), .inl (cI, 5, .inl (F 28))), ((r 29), .inl (cI, 18000, .inl (F 29))), ((r 26), .inl (cB, 27000, .inl (F 26))), ((r 27), .inl (cI, 27000, .inl (F 27))), ((r 6), .inl (cI, 5, .inl u6)), ((r 7), .inl (cI, 5, .inl u9)), ((r 8), .inl (cI, 100, .inl u12)), ((r 9), .inl (cI, 110, .inl u15)), ((r 10), .inl (cI, 110, .inl u18)), ((r 11), .inl (cI, 110, .inl u21)), ((r 12), .inl (cI, 600, .inl u24)), ((r 13), .inl (cI, 5, .inl u27)), ((r 15), .inl (cI, 80, .inl u30)), ((r 16), .inl (cI, 5, .inl u33)), ((r 17), .inl (cI, 30, .inl u36)), ((r 18), .inl (cI, 30, .inl u39)), ((r 19), .inl (cI, 30, .inl u42))]) (w1 := [((r 20), .inl (cI, 30, .inl u45))]) hP hD [2] [0, 1, 3, 4, 5, 6, 7, 8, 9, 10, 11, 12, 13, 14, 15, 16, 17, 18, 19, 20, 21, 22, 23, 24] rfl rfl (by decide) (by decide) hk1 hFc hP1 hD1
    have hP : va_P (dC, dI) vwCl [((r 0), .inr (8, [.int 0, .ref (r 1), .int 0, .ref (r 3), .ref (r 4), .ref (r 5), .ref (r 6), .ref (r 7), .ref (r 8), .ref (r 9), .ref (r 10), .ref (r 11), .ref (r 12), .ref (r 13), .ref (r 14), .ref (r 15), .ref (r 16), .ref (r 17), .ref (r 18), .ref (r 19), .ref (r 20), .ref (r 21), .ref (r 22), .ref (r 23), .ref (r 24), .ref (r 25), .ref (r 26), .ref (r 27), .ref (r 28), .ref (r 29), .int 0, .int 0, .int 0, .int 0, .int 0, .int 0, .int (-1), .int 0, .int 0, .int 0, .int 0, .int 0, .int 0, .ref (r 43), .ref (r 44), .ref (r 45), .int 0, .ref (r 47)])), ((r 14), .inl (cZ, 2000, .inl g)), ((r 21), .inl (cI, 30, .inl (F 21))), ((r 22), .inl (cI, 30, .inl (F 22))), ((r 23), .inl (cI, 30, .inl (F 23))), ((r 24), .inl (cI, 30, .inl (F 24))), ((r 25), .inl (cI, 780, .inl (F 25))), ((r 28), .inl (cI, 5, .inl (F 28))), ((r 29), .inl (cI, 18000, .inl (F 29))), ((r 26), .inl (cB, 27000, .inl (F 26))), ((r 27), .inl (cI, 27000, .inl (F 27))), ((r 6), .inl (cI, 5, .inl u6)), ((r 7), .inl (cI, 5, .inl u9)), ((r 8), .inl (cI, 100, .inl u12)), ((r 9), .inl (cI, 110, .inl u15)), ((r 10), .inl (cI, 110, .inl u18)), ((r 11), .inl (cI, 110, .inl u21)), ((r 12), .inl (cI, 600, .inl u24)), ((r 13), .inl (cI, 5, .inl u27)), ((r 15), .inl (cI, 80, .inl u30)), ((r 16), .inl (cI, 5, .inl u33)), ((r 17), .inl (cI, 30, .inl u36)), ((r 18), .inl (cI, 30, .inl u39)), ((r 19), .inl (cI, 30, .inl u42)), ((r 20), .inl (cI, 30, .inl u45))] H46 := hP
    have hD : va_D A [((r 0), .inr (8, [.int 0, .ref (r 1), .int 0, .ref (r 3), .ref (r 4), .ref (r 5), .ref (r 6), .ref (r 7), .ref (r 8), .ref (r 9), .ref (r 10), .ref (r 11), .ref (r 12), .ref (r 13), .ref (r 14), .ref (r 15), .ref (r 16), .ref (r 17), .ref (r 18), .ref (r 19), .ref (r 20), .ref (r 21), .ref (r 22), .ref (r 23), .ref (r 24), .ref (r 25), .ref (r 26), .ref (r 27), .ref (r 28), .ref (r 29), .int 0, .int 0, .int 0, .int 0, .int 0, .int 0, .int (-1), .int 0, .int 0, .int 0, .int 0, .int 0, .int 0, .ref (r 43), .ref (r 44), .ref (r 45), .int 0, .ref (r 47)])), ((r 14), .inl (cZ, 2000, .inl g)), ((r 21), .inl (cI, 30, .inl (F 21))), ((r 22), .inl (cI, 30, .inl (F 22))), ((r 23), .inl (cI, 30, .inl (F 23))), ((r 24), .inl (cI, 30, .inl (F 24))), ((r 25), .inl (cI, 780, .inl (F 25))), ((r 28), .inl (cI, 5, .inl (F 28))), ((r 29), .inl (cI, 18000, .inl (F 29))), ((r 26), .inl (cB, 27000, .inl (F 26))), ((r 27), .inl (cI, 27000, .inl (F 27))), ((r 6), .inl (cI, 5, .inl u6)), ((r 7), .inl (cI, 5, .inl u9)), ((r 8), .inl (cI, 100, .inl u12)), ((r 9), .inl (cI, 110, .inl u15)), ((r 10), .inl (cI, 110, .inl u18)), ((r 11), .inl (cI, 110, .inl u21)), ((r 12), .inl (cI, 600, .inl u24)), ((r 13), .inl (cI, 5, .inl u27)), ((r 15), .inl (cI, 80, .inl u30)), ((r 16), .inl (cI, 5, .inl u33)), ((r 17), .inl (cI, 30, .inl u36)), ((r 18), .inl (cI, 30, .inl u39)), ((r 19), .inl (cI, 30, .inl u42)), ((r 20), .inl (cI, 30, .inl u45))] := hD
    refine lv_aload_n hx hb dX8_copy_267 rfl (lv_at hl 0 rfl) ?_
    refine va_get (D := (dC, dI)) (ci := 8) (v := .ref (r 21)) (C := RX8) (T := TX8) (N := 48) hx hb hts in_m_copy_X8 hown hK hP 0 rfl rfl 21 (by decide) (hts (.fieldLink RX8 71 "DepotMarchModel" "rested" "[I") (by decide +kernel)) (fun _ h9 => h9) rfl dX8_copy_268 ?_
    refine lv_bipush (v := 6) hx hb dX8_copy_271 (by decide) ?_
    refine lv_iload_n hx hb dX8_copy_273 rfl (lv_at hl 1 rfl) ?_
    refine lv_iload_n hx hb dX8_copy_274 rfl (lv_at hl 2 rfl) ?_
    have hPc := hP.sub (ws' := [((r 21), .inl (cI, 30, .inl (F 21)))]) [2] rfl
    have hDc := hD.sub (ws' := [((r 21), .inl (cI, 30, .inl (F 21)))]) [2] (by decide) rfl
    have hFc := va_free (wc := [((r 21), .inl (cI, 30, .inl (F 21)))]) hD hS hA [2] rfl
    refine va_callv (va_runS (As := [.ref (r 21), .int 6, .int (nI fr), .int (nI to)]) (rest := []) ⟨hx, hb, hml, hown, hts⟩ ((c_moveInts l dC dI cI cZ cB cJ cP cW (r 21) 30 6 fr to (F 21) H46.size) (by decide) (by omega) (by omega) (by omega)) (va_cwS 4 hts g129_m_copy_moveInts rfl rfl rfl (by decide +kernel) ⟨Nat.le_of_ble_eq_true rfl, Nat.le_of_ble_eq_true rfl⟩) ⟨fbM, fun U hU hW => ⟨rfl, by rw [hU], hE.warm hW, by rw [hU]; exact hPc, hDc.weaken (fun _ _ _ _ => trivial)⟩⟩ rfl rfl hl.1 rfl (lv_room (Nat.le_of_ble_eq_true rfl)) dX8_copy_275 ⟨Nat.le_of_ble_eq_true rfl, Nat.le_of_ble_eq_true rfl⟩) hS (fun q _ h => hFc q h) hFc (fun u48 t H49 locs ht hvm hr47 hB hz1 hk1 hS => ?_)
    obtain ⟨hP1, hD1⟩ := hB
    rw [ht] at hP1
    obtain ⟨hP, hD⟩ := va_join (wr := [((r 0), .inr (8, [.int 0, .ref (r 1), .int 0, .ref (r 3), .ref (r 4), .ref (r 5), .ref (r 6), .ref (r 7), .ref (r 8), .ref (r 9), .ref (r 10), .ref (r 11), .ref (r 12), .ref (r 13), .ref (r 14), .ref (r 15), .ref (r 16), .ref (r 17), .ref (r 18), .ref (r 19), .ref (r 20), .ref (r 21), .ref (r 22), .ref (r 23), .ref (r 24), .ref (r 25), .ref (r 26), .ref (r 27), .ref (r 28), .ref (r 29), .int 0, .int 0, .int 0, .int 0, .int 0, .int 0, .int (-1), .int 0, .int 0, .int 0, .int 0, .int 0, .int 0, .ref (r 43), .ref (r 44), .ref (r 45), .int 0, .ref (r 47)])), ((r 14), .inl (cZ, 2000, .inl g)), ((r 22), .inl (cI, 30, .inl (F 22))), ((r 23), .inl (cI, 30, .inl (F 23))), ((r 24), .inl (cI, 30, .inl (F 24))), ((r 25), .inl (cI, 780, .inl (F 25))), ((r 28), .inl (cI, 5, .inl (F 28))), ((r 29), .inl (cI, 18000, .inl (F 29))), ((r 26), .inl (cB, 27000, .inl (F 26))), ((r 27), .inl (cI, 27000, .inl (F 27))), ((r 6), .inl (cI, 5, .inl u6)), ((r 7), .inl (cI, 5, .inl u9)), ((r 8), .inl (cI, 100, .inl u12)), ((r 9), .inl (cI, 110, .inl u15)), ((r 10), .inl (cI, 110, .inl u18)), ((r 11), .inl (cI, 110, .inl u21)), ((r 12), .inl (cI, 600, .inl u24)), ((r 13), .inl (cI, 5, .inl u27)), ((r 15), .inl (cI, 80, .inl u30)), ((r 16), .inl (cI, 5, .inl u33)), ((r 17), .inl (cI, 30, .inl u36)), ((r 18), .inl (cI, 30, .inl u39)), ((r 19), .inl (cI, 30, .inl u42)), ((r 20), .inl (cI, 30, .inl u45))]) (w1 := [((r 21), .inl (cI, 30, .inl u48))]) hP hD [2] [0, 1, 3, 4, 5, 6, 7, 8, 9, 10, 11, 12, 13, 14, 15, 16, 17, 18, 19, 20, 21, 22, 23, 24] rfl rfl (by decide) (by decide) hk1 hFc hP1 hD1
    have hP : va_P (dC, dI) vwCl [((r 0), .inr (8, [.int 0, .ref (r 1), .int 0, .ref (r 3), .ref (r 4), .ref (r 5), .ref (r 6), .ref (r 7), .ref (r 8), .ref (r 9), .ref (r 10), .ref (r 11), .ref (r 12), .ref (r 13), .ref (r 14), .ref (r 15), .ref (r 16), .ref (r 17), .ref (r 18), .ref (r 19), .ref (r 20), .ref (r 21), .ref (r 22), .ref (r 23), .ref (r 24), .ref (r 25), .ref (r 26), .ref (r 27), .ref (r 28), .ref (r 29), .int 0, .int 0, .int 0, .int 0, .int 0, .int 0, .int (-1), .int 0, .int 0, .int 0, .int 0, .int 0, .int 0, .ref (r 43), .ref (r 44), .ref (r 45), .int 0, .ref (r 47)])), ((r 14), .inl (cZ, 2000, .inl g)), ((r 22), .inl (cI, 30, .inl (F 22))), ((r 23), .inl (cI, 30, .inl (F 23))), ((r 24), .inl (cI, 30, .inl (F 24))), ((r 25), .inl (cI, 780, .inl (F 25))), ((r 28), .inl (cI, 5, .inl (F 28))), ((r 29), .inl (cI, 18000, .inl (F 29))), ((r 26), .inl (cB, 27000, .inl (F 26))), ((r 27), .inl (cI, 27000, .inl (F 27))), ((r 6), .inl (cI, 5, .inl u6)), ((r 7), .inl (cI, 5, .inl u9)), ((r 8), .inl (cI, 100, .inl u12)), ((r 9), .inl (cI, 110, .inl u15)), ((r 10), .inl (cI, 110, .inl u18)), ((r 11), .inl (cI, 110, .inl u21)), ((r 12), .inl (cI, 600, .inl u24)), ((r 13), .inl (cI, 5, .inl u27)), ((r 15), .inl (cI, 80, .inl u30)), ((r 16), .inl (cI, 5, .inl u33)), ((r 17), .inl (cI, 30, .inl u36)), ((r 18), .inl (cI, 30, .inl u39)), ((r 19), .inl (cI, 30, .inl u42)), ((r 20), .inl (cI, 30, .inl u45)), ((r 21), .inl (cI, 30, .inl u48))] H49 := hP
    have hD : va_D A [((r 0), .inr (8, [.int 0, .ref (r 1), .int 0, .ref (r 3), .ref (r 4), .ref (r 5), .ref (r 6), .ref (r 7), .ref (r 8), .ref (r 9), .ref (r 10), .ref (r 11), .ref (r 12), .ref (r 13), .ref (r 14), .ref (r 15), .ref (r 16), .ref (r 17), .ref (r 18), .ref (r 19), .ref (r 20), .ref (r 21), .ref (r 22), .ref (r 23), .ref (r 24), .ref (r 25), .ref (r 26), .ref (r 27), .ref (r 28), .ref (r 29), .int 0, .int 0, .int 0, .int 0, .int 0, .int 0, .int (-1), .int 0, .int 0, .int 0, .int 0, .int 0, .int 0, .ref (r 43), .ref (r 44), .ref (r 45), .int 0, .ref (r 47)])), ((r 14), .inl (cZ, 2000, .inl g)), ((r 22), .inl (cI, 30, .inl (F 22))), ((r 23), .inl (cI, 30, .inl (F 23))), ((r 24), .inl (cI, 30, .inl (F 24))), ((r 25), .inl (cI, 780, .inl (F 25))), ((r 28), .inl (cI, 5, .inl (F 28))), ((r 29), .inl (cI, 18000, .inl (F 29))), ((r 26), .inl (cB, 27000, .inl (F 26))), ((r 27), .inl (cI, 27000, .inl (F 27))), ((r 6), .inl (cI, 5, .inl u6)), ((r 7), .inl (cI, 5, .inl u9)), ((r 8), .inl (cI, 100, .inl u12)), ((r 9), .inl (cI, 110, .inl u15)), ((r 10), .inl (cI, 110, .inl u18)), ((r 11), .inl (cI, 110, .inl u21)), ((r 12), .inl (cI, 600, .inl u24)), ((r 13), .inl (cI, 5, .inl u27)), ((r 15), .inl (cI, 80, .inl u30)), ((r 16), .inl (cI, 5, .inl u33)), ((r 17), .inl (cI, 30, .inl u36)), ((r 18), .inl (cI, 30, .inl u39)), ((r 19), .inl (cI, 30, .inl u42)), ((r 20), .inl (cI, 30, .inl u45)), ((r 21), .inl (cI, 30, .inl u48))] := hD
    refine lv_aload_n hx hb dX8_copy_278 rfl (lv_at hl 0 rfl) ?_
    refine va_get (D := (dC, dI)) (ci := 8) (v := .ref (r 22)) (C := RX8) (T := TX8) (N := 48) hx hb hts in_m_copy_X8 hown hK hP 0 rfl rfl 22 (by decide) (hts (.fieldLink RX8 74 "DepotMarchModel" "counted" "[I") (by decide +kernel)) (fun _ h9 => h9) rfl dX8_copy_279 ?_
    refine lv_bipush (v := 6) hx hb dX8_copy_282 (by decide) ?_
    refine lv_iload_n hx hb dX8_copy_284 rfl (lv_at hl 1 rfl) ?_
    refine lv_iload_n hx hb dX8_copy_285 rfl (lv_at hl 2 rfl) ?_
    have hPc := hP.sub (ws' := [((r 22), .inl (cI, 30, .inl (F 22)))]) [2] rfl
    have hDc := hD.sub (ws' := [((r 22), .inl (cI, 30, .inl (F 22)))]) [2] (by decide) rfl
    have hFc := va_free (wc := [((r 22), .inl (cI, 30, .inl (F 22)))]) hD hS hA [2] rfl
    refine va_callv (va_runS (As := [.ref (r 22), .int 6, .int (nI fr), .int (nI to)]) (rest := []) ⟨hx, hb, hml, hown, hts⟩ ((c_moveInts l dC dI cI cZ cB cJ cP cW (r 22) 30 6 fr to (F 22) H49.size) (by decide) (by omega) (by omega) (by omega)) (va_cwS 4 hts g129_m_copy_moveInts rfl rfl rfl (by decide +kernel) ⟨Nat.le_of_ble_eq_true rfl, Nat.le_of_ble_eq_true rfl⟩) ⟨fbM, fun U hU hW => ⟨rfl, by rw [hU], hE.warm hW, by rw [hU]; exact hPc, hDc.weaken (fun _ _ _ _ => trivial)⟩⟩ rfl rfl hl.1 rfl (lv_room (Nat.le_of_ble_eq_true rfl)) dX8_copy_286 ⟨Nat.le_of_ble_eq_true rfl, Nat.le_of_ble_eq_true rfl⟩) hS (fun q _ h => hFc q h) hFc (fun u51 t H52 locs ht hvm hr50 hB hz1 hk1 hS => ?_)
    obtain ⟨hP1, hD1⟩ := hB
    rw [ht] at hP1
    obtain ⟨hP, hD⟩ := va_join (wr := [((r 0), .inr (8, [.int 0, .ref (r 1), .int 0, .ref (r 3), .ref (r 4), .ref (r 5), .ref (r 6), .ref (r 7), .ref (r 8), .ref (r 9), .ref (r 10), .ref (r 11), .ref (r 12), .ref (r 13), .ref (r 14), .ref (r 15), .ref (r 16), .ref (r 17), .ref (r 18), .ref (r 19), .ref (r 20), .ref (r 21), .ref (r 22), .ref (r 23), .ref (r 24), .ref (r 25), .ref (r 26), .ref (r 27), .ref (r 28), .ref (r 29), .int 0, .int 0, .int 0, .int 0, .int 0, .int 0, .int (-1), .int 0, .int 0, .int 0, .int 0, .int 0, .int 0, .ref (r 43), .ref (r 44), .ref (r 45), .int 0, .ref (r 47)])), ((r 14), .inl (cZ, 2000, .inl g)), ((r 23), .inl (cI, 30, .inl (F 23))), ((r 24), .inl (cI, 30, .inl (F 24))), ((r 25), .inl (cI, 780, .inl (F 25))), ((r 28), .inl (cI, 5, .inl (F 28))), ((r 29), .inl (cI, 18000, .inl (F 29))), ((r 26), .inl (cB, 27000, .inl (F 26))), ((r 27), .inl (cI, 27000, .inl (F 27))), ((r 6), .inl (cI, 5, .inl u6)), ((r 7), .inl (cI, 5, .inl u9)), ((r 8), .inl (cI, 100, .inl u12)), ((r 9), .inl (cI, 110, .inl u15)), ((r 10), .inl (cI, 110, .inl u18)), ((r 11), .inl (cI, 110, .inl u21)), ((r 12), .inl (cI, 600, .inl u24)), ((r 13), .inl (cI, 5, .inl u27)), ((r 15), .inl (cI, 80, .inl u30)), ((r 16), .inl (cI, 5, .inl u33)), ((r 17), .inl (cI, 30, .inl u36)), ((r 18), .inl (cI, 30, .inl u39)), ((r 19), .inl (cI, 30, .inl u42)), ((r 20), .inl (cI, 30, .inl u45)), ((r 21), .inl (cI, 30, .inl u48))]) (w1 := [((r 22), .inl (cI, 30, .inl u51))]) hP hD [2] [0, 1, 3, 4, 5, 6, 7, 8, 9, 10, 11, 12, 13, 14, 15, 16, 17, 18, 19, 20, 21, 22, 23, 24] rfl rfl (by decide) (by decide) hk1 hFc hP1 hD1
    have hP : va_P (dC, dI) vwCl [((r 0), .inr (8, [.int 0, .ref (r 1), .int 0, .ref (r 3), .ref (r 4), .ref (r 5), .ref (r 6), .ref (r 7), .ref (r 8), .ref (r 9), .ref (r 10), .ref (r 11), .ref (r 12), .ref (r 13), .ref (r 14), .ref (r 15), .ref (r 16), .ref (r 17), .ref (r 18), .ref (r 19), .ref (r 20), .ref (r 21), .ref (r 22), .ref (r 23), .ref (r 24), .ref (r 25), .ref (r 26), .ref (r 27), .ref (r 28), .ref (r 29), .int 0, .int 0, .int 0, .int 0, .int 0, .int 0, .int (-1), .int 0, .int 0, .int 0, .int 0, .int 0, .int 0, .ref (r 43), .ref (r 44), .ref (r 45), .int 0, .ref (r 47)])), ((r 14), .inl (cZ, 2000, .inl g)), ((r 23), .inl (cI, 30, .inl (F 23))), ((r 24), .inl (cI, 30, .inl (F 24))), ((r 25), .inl (cI, 780, .inl (F 25))), ((r 28), .inl (cI, 5, .inl (F 28))), ((r 29), .inl (cI, 18000, .inl (F 29))), ((r 26), .inl (cB, 27000, .inl (F 26))), ((r 27), .inl (cI, 27000, .inl (F 27))), ((r 6), .inl (cI, 5, .inl u6)), ((r 7), .inl (cI, 5, .inl u9)), ((r 8), .inl (cI, 100, .inl u12)), ((r 9), .inl (cI, 110, .inl u15)), ((r 10), .inl (cI, 110, .inl u18)), ((r 11), .inl (cI, 110, .inl u21)), ((r 12), .inl (cI, 600, .inl u24)), ((r 13), .inl (cI, 5, .inl u27)), ((r 15), .inl (cI, 80, .inl u30)), ((r 16), .inl (cI, 5, .inl u33)), ((r 17), .inl (cI, 30, .inl u36)), ((r 18), .inl (cI, 30, .inl u39)), ((r 19), .inl (cI, 30, .inl u42)), ((r 20), .inl (cI, 30, .inl u45)), ((r 21), .inl (cI, 30, .inl u48)), ((r 22), .inl (cI, 30, .inl u51))] H52 := hP
    have hD : va_D A [((r 0), .inr (8, [.int 0, .ref (r 1), .int 0, .ref (r 3), .ref (r 4), .ref (r 5), .ref (r 6), .ref (r 7), .ref (r 8), .ref (r 9), .ref (r 10), .ref (r 11), .ref (r 12), .ref (r 13), .ref (r 14), .ref (r 15), .ref (r 16), .ref (r 17), .ref (r 18), .ref (r 19), .ref (r 20), .ref (r 21), .ref (r 22), .ref (r 23), .ref (r 24), .ref (r 25), .ref (r 26), .ref (r 27), .ref (r 28), .ref (r 29), .int 0, .int 0, .int 0, .int 0, .int 0, .int 0, .int (-1), .int 0, .int 0, .int 0, .int 0, .int 0, .int 0, .ref (r 43), .ref (r 44), .ref (r 45), .int 0, .ref (r 47)])), ((r 14), .inl (cZ, 2000, .inl g)), ((r 23), .inl (cI, 30, .inl (F 23))), ((r 24), .inl (cI, 30, .inl (F 24))), ((r 25), .inl (cI, 780, .inl (F 25))), ((r 28), .inl (cI, 5, .inl (F 28))), ((r 29), .inl (cI, 18000, .inl (F 29))), ((r 26), .inl (cB, 27000, .inl (F 26))), ((r 27), .inl (cI, 27000, .inl (F 27))), ((r 6), .inl (cI, 5, .inl u6)), ((r 7), .inl (cI, 5, .inl u9)), ((r 8), .inl (cI, 100, .inl u12)), ((r 9), .inl (cI, 110, .inl u15)), ((r 10), .inl (cI, 110, .inl u18)), ((r 11), .inl (cI, 110, .inl u21)), ((r 12), .inl (cI, 600, .inl u24)), ((r 13), .inl (cI, 5, .inl u27)), ((r 15), .inl (cI, 80, .inl u30)), ((r 16), .inl (cI, 5, .inl u33)), ((r 17), .inl (cI, 30, .inl u36)), ((r 18), .inl (cI, 30, .inl u39)), ((r 19), .inl (cI, 30, .inl u42)), ((r 20), .inl (cI, 30, .inl u45)), ((r 21), .inl (cI, 30, .inl u48)), ((r 22), .inl (cI, 30, .inl u51))] := hD
    refine lv_aload_n hx hb dX8_copy_289 rfl (lv_at hl 0 rfl) ?_
    refine va_get (D := (dC, dI)) (ci := 8) (v := .ref (r 23)) (C := RX8) (T := TX8) (N := 48) hx hb hts in_m_copy_X8 hown hK hP 0 rfl rfl 23 (by decide) (hts (.fieldLink RX8 77 "DepotMarchModel" "at" "[I") (by decide +kernel)) (fun _ h9 => h9) rfl dX8_copy_290 ?_
    refine lv_bipush (v := 6) hx hb dX8_copy_293 (by decide) ?_
    refine lv_iload_n hx hb dX8_copy_295 rfl (lv_at hl 1 rfl) ?_
    refine lv_iload_n hx hb dX8_copy_296 rfl (lv_at hl 2 rfl) ?_
    have hPc := hP.sub (ws' := [((r 23), .inl (cI, 30, .inl (F 23)))]) [2] rfl
    have hDc := hD.sub (ws' := [((r 23), .inl (cI, 30, .inl (F 23)))]) [2] (by decide) rfl
    have hFc := va_free (wc := [((r 23), .inl (cI, 30, .inl (F 23)))]) hD hS hA [2] rfl
    refine va_callv (va_runS (As := [.ref (r 23), .int 6, .int (nI fr), .int (nI to)]) (rest := []) ⟨hx, hb, hml, hown, hts⟩ ((c_moveInts l dC dI cI cZ cB cJ cP cW (r 23) 30 6 fr to (F 23) H52.size) (by decide) (by omega) (by omega) (by omega)) (va_cwS 4 hts g129_m_copy_moveInts rfl rfl rfl (by decide +kernel) ⟨Nat.le_of_ble_eq_true rfl, Nat.le_of_ble_eq_true rfl⟩) ⟨fbM, fun U hU hW => ⟨rfl, by rw [hU], hE.warm hW, by rw [hU]; exact hPc, hDc.weaken (fun _ _ _ _ => trivial)⟩⟩ rfl rfl hl.1 rfl (lv_room (Nat.le_of_ble_eq_true rfl)) dX8_copy_297 ⟨Nat.le_of_ble_eq_true rfl, Nat.le_of_ble_eq_true rfl⟩) hS (fun q _ h => hFc q h) hFc (fun u54 t H55 locs ht hvm hr53 hB hz1 hk1 hS => ?_)
    obtain ⟨hP1, hD1⟩ := hB
    rw [ht] at hP1
    obtain ⟨hP, hD⟩ := va_join (wr := [((r 0), .inr (8, [.int 0, .ref (r 1), .int 0, .ref (r 3), .ref (r 4), .ref (r 5), .ref (r 6), .ref (r 7), .ref (r 8), .ref (r 9), .ref (r 10), .ref (r 11), .ref (r 12), .ref (r 13), .ref (r 14), .ref (r 15), .ref (r 16), .ref (r 17), .ref (r 18), .ref (r 19), .ref (r 20), .ref (r 21), .ref (r 22), .ref (r 23), .ref (r 24), .ref (r 25), .ref (r 26), .ref (r 27), .ref (r 28), .ref (r 29), .int 0, .int 0, .int 0, .int 0, .int 0, .int 0, .int (-1), .int 0, .int 0, .int 0, .int 0, .int 0, .int 0, .ref (r 43), .ref (r 44), .ref (r 45), .int 0, .ref (r 47)])), ((r 14), .inl (cZ, 2000, .inl g)), ((r 24), .inl (cI, 30, .inl (F 24))), ((r 25), .inl (cI, 780, .inl (F 25))), ((r 28), .inl (cI, 5, .inl (F 28))), ((r 29), .inl (cI, 18000, .inl (F 29))), ((r 26), .inl (cB, 27000, .inl (F 26))), ((r 27), .inl (cI, 27000, .inl (F 27))), ((r 6), .inl (cI, 5, .inl u6)), ((r 7), .inl (cI, 5, .inl u9)), ((r 8), .inl (cI, 100, .inl u12)), ((r 9), .inl (cI, 110, .inl u15)), ((r 10), .inl (cI, 110, .inl u18)), ((r 11), .inl (cI, 110, .inl u21)), ((r 12), .inl (cI, 600, .inl u24)), ((r 13), .inl (cI, 5, .inl u27)), ((r 15), .inl (cI, 80, .inl u30)), ((r 16), .inl (cI, 5, .inl u33)), ((r 17), .inl (cI, 30, .inl u36)), ((r 18), .inl (cI, 30, .inl u39)), ((r 19), .inl (cI, 30, .inl u42)), ((r 20), .inl (cI, 30, .inl u45)), ((r 21), .inl (cI, 30, .inl u48)), ((r 22), .inl (cI, 30, .inl u51))]) (w1 := [((r 23), .inl (cI, 30, .inl u54))]) hP hD [2] [0, 1, 3, 4, 5, 6, 7, 8, 9, 10, 11, 12, 13, 14, 15, 16, 17, 18, 19, 20, 21, 22, 23, 24] rfl rfl (by decide) (by decide) hk1 hFc hP1 hD1
    have hP : va_P (dC, dI) vwCl [((r 0), .inr (8, [.int 0, .ref (r 1), .int 0, .ref (r 3), .ref (r 4), .ref (r 5), .ref (r 6), .ref (r 7), .ref (r 8), .ref (r 9), .ref (r 10), .ref (r 11), .ref (r 12), .ref (r 13), .ref (r 14), .ref (r 15), .ref (r 16), .ref (r 17), .ref (r 18), .ref (r 19), .ref (r 20), .ref (r 21), .ref (r 22), .ref (r 23), .ref (r 24), .ref (r 25), .ref (r 26), .ref (r 27), .ref (r 28), .ref (r 29), .int 0, .int 0, .int 0, .int 0, .int 0, .int 0, .int (-1), .int 0, .int 0, .int 0, .int 0, .int 0, .int 0, .ref (r 43), .ref (r 44), .ref (r 45), .int 0, .ref (r 47)])), ((r 14), .inl (cZ, 2000, .inl g)), ((r 24), .inl (cI, 30, .inl (F 24))), ((r 25), .inl (cI, 780, .inl (F 25))), ((r 28), .inl (cI, 5, .inl (F 28))), ((r 29), .inl (cI, 18000, .inl (F 29))), ((r 26), .inl (cB, 27000, .inl (F 26))), ((r 27), .inl (cI, 27000, .inl (F 27))), ((r 6), .inl (cI, 5, .inl u6)), ((r 7), .inl (cI, 5, .inl u9)), ((r 8), .inl (cI, 100, .inl u12)), ((r 9), .inl (cI, 110, .inl u15)), ((r 10), .inl (cI, 110, .inl u18)), ((r 11), .inl (cI, 110, .inl u21)), ((r 12), .inl (cI, 600, .inl u24)), ((r 13), .inl (cI, 5, .inl u27)), ((r 15), .inl (cI, 80, .inl u30)), ((r 16), .inl (cI, 5, .inl u33)), ((r 17), .inl (cI, 30, .inl u36)), ((r 18), .inl (cI, 30, .inl u39)), ((r 19), .inl (cI, 30, .inl u42)), ((r 20), .inl (cI, 30, .inl u45)), ((r 21), .inl (cI, 30, .inl u48)), ((r 22), .inl (cI, 30, .inl u51)), ((r 23), .inl (cI, 30, .inl u54))] H55 := hP
    have hD : va_D A [((r 0), .inr (8, [.int 0, .ref (r 1), .int 0, .ref (r 3), .ref (r 4), .ref (r 5), .ref (r 6), .ref (r 7), .ref (r 8), .ref (r 9), .ref (r 10), .ref (r 11), .ref (r 12), .ref (r 13), .ref (r 14), .ref (r 15), .ref (r 16), .ref (r 17), .ref (r 18), .ref (r 19), .ref (r 20), .ref (r 21), .ref (r 22), .ref (r 23), .ref (r 24), .ref (r 25), .ref (r 26), .ref (r 27), .ref (r 28), .ref (r 29), .int 0, .int 0, .int 0, .int 0, .int 0, .int 0, .int (-1), .int 0, .int 0, .int 0, .int 0, .int 0, .int 0, .ref (r 43), .ref (r 44), .ref (r 45), .int 0, .ref (r 47)])), ((r 14), .inl (cZ, 2000, .inl g)), ((r 24), .inl (cI, 30, .inl (F 24))), ((r 25), .inl (cI, 780, .inl (F 25))), ((r 28), .inl (cI, 5, .inl (F 28))), ((r 29), .inl (cI, 18000, .inl (F 29))), ((r 26), .inl (cB, 27000, .inl (F 26))), ((r 27), .inl (cI, 27000, .inl (F 27))), ((r 6), .inl (cI, 5, .inl u6)), ((r 7), .inl (cI, 5, .inl u9)), ((r 8), .inl (cI, 100, .inl u12)), ((r 9), .inl (cI, 110, .inl u15)), ((r 10), .inl (cI, 110, .inl u18)), ((r 11), .inl (cI, 110, .inl u21)), ((r 12), .inl (cI, 600, .inl u24)), ((r 13), .inl (cI, 5, .inl u27)), ((r 15), .inl (cI, 80, .inl u30)), ((r 16), .inl (cI, 5, .inl u33)), ((r 17), .inl (cI, 30, .inl u36)), ((r 18), .inl (cI, 30, .inl u39)), ((r 19), .inl (cI, 30, .inl u42)), ((r 20), .inl (cI, 30, .inl u45)), ((r 21), .inl (cI, 30, .inl u48)), ((r 22), .inl (cI, 30, .inl u51)), ((r 23), .inl (cI, 30, .inl u54))] := hD
    refine lv_aload_n hx hb dX8_copy_300 rfl (lv_at hl 0 rfl) ?_
    refine va_get (D := (dC, dI)) (ci := 8) (v := .ref (r 24)) (C := RX8) (T := TX8) (N := 48) hx hb hts in_m_copy_X8 hown hK hP 0 rfl rfl 24 (by decide) (hts (.fieldLink RX8 80 "DepotMarchModel" "steps" "[I") (by decide +kernel)) (fun _ h9 => h9) rfl dX8_copy_301 ?_
    refine lv_bipush (v := 6) hx hb dX8_copy_304 (by decide) ?_
    refine lv_iload_n hx hb dX8_copy_306 rfl (lv_at hl 1 rfl) ?_
    refine lv_iload_n hx hb dX8_copy_307 rfl (lv_at hl 2 rfl) ?_
    have hPc := hP.sub (ws' := [((r 24), .inl (cI, 30, .inl (F 24)))]) [2] rfl
    have hDc := hD.sub (ws' := [((r 24), .inl (cI, 30, .inl (F 24)))]) [2] (by decide) rfl
    have hFc := va_free (wc := [((r 24), .inl (cI, 30, .inl (F 24)))]) hD hS hA [2] rfl
    refine va_callv (va_runS (As := [.ref (r 24), .int 6, .int (nI fr), .int (nI to)]) (rest := []) ⟨hx, hb, hml, hown, hts⟩ ((c_moveInts l dC dI cI cZ cB cJ cP cW (r 24) 30 6 fr to (F 24) H55.size) (by decide) (by omega) (by omega) (by omega)) (va_cwS 4 hts g129_m_copy_moveInts rfl rfl rfl (by decide +kernel) ⟨Nat.le_of_ble_eq_true rfl, Nat.le_of_ble_eq_true rfl⟩) ⟨fbM, fun U hU hW => ⟨rfl, by rw [hU], hE.warm hW, by rw [hU]; exact hPc, hDc.weaken (fun _ _ _ _ => trivial)⟩⟩ rfl rfl hl.1 rfl (lv_room (Nat.le_of_ble_eq_true rfl)) dX8_copy_308 ⟨Nat.le_of_ble_eq_true rfl, Nat.le_of_ble_eq_true rfl⟩) hS (fun q _ h => hFc q h) hFc (fun u57 t H58 locs ht hvm hr56 hB hz1 hk1 hS => ?_)
    obtain ⟨hP1, hD1⟩ := hB
    rw [ht] at hP1
    obtain ⟨hP, hD⟩ := va_join (wr := [((r 0), .inr (8, [.int 0, .ref (r 1), .int 0, .ref (r 3), .ref (r 4), .ref (r 5), .ref (r 6), .ref (r 7), .ref (r 8), .ref (r 9), .ref (r 10), .ref (r 11), .ref (r 12), .ref (r 13), .ref (r 14), .ref (r 15), .ref (r 16), .ref (r 17), .ref (r 18), .ref (r 19), .ref (r 20), .ref (r 21), .ref (r 22), .ref (r 23), .ref (r 24), .ref (r 25), .ref (r 26), .ref (r 27), .ref (r 28), .ref (r 29), .int 0, .int 0, .int 0, .int 0, .int 0, .int 0, .int (-1), .int 0, .int 0, .int 0, .int 0, .int 0, .int 0, .ref (r 43), .ref (r 44), .ref (r 45), .int 0, .ref (r 47)])), ((r 14), .inl (cZ, 2000, .inl g)), ((r 25), .inl (cI, 780, .inl (F 25))), ((r 28), .inl (cI, 5, .inl (F 28))), ((r 29), .inl (cI, 18000, .inl (F 29))), ((r 26), .inl (cB, 27000, .inl (F 26))), ((r 27), .inl (cI, 27000, .inl (F 27))), ((r 6), .inl (cI, 5, .inl u6)), ((r 7), .inl (cI, 5, .inl u9)), ((r 8), .inl (cI, 100, .inl u12)), ((r 9), .inl (cI, 110, .inl u15)), ((r 10), .inl (cI, 110, .inl u18)), ((r 11), .inl (cI, 110, .inl u21)), ((r 12), .inl (cI, 600, .inl u24)), ((r 13), .inl (cI, 5, .inl u27)), ((r 15), .inl (cI, 80, .inl u30)), ((r 16), .inl (cI, 5, .inl u33)), ((r 17), .inl (cI, 30, .inl u36)), ((r 18), .inl (cI, 30, .inl u39)), ((r 19), .inl (cI, 30, .inl u42)), ((r 20), .inl (cI, 30, .inl u45)), ((r 21), .inl (cI, 30, .inl u48)), ((r 22), .inl (cI, 30, .inl u51)), ((r 23), .inl (cI, 30, .inl u54))]) (w1 := [((r 24), .inl (cI, 30, .inl u57))]) hP hD [2] [0, 1, 3, 4, 5, 6, 7, 8, 9, 10, 11, 12, 13, 14, 15, 16, 17, 18, 19, 20, 21, 22, 23, 24] rfl rfl (by decide) (by decide) hk1 hFc hP1 hD1
    have hP : va_P (dC, dI) vwCl [((r 0), .inr (8, [.int 0, .ref (r 1), .int 0, .ref (r 3), .ref (r 4), .ref (r 5), .ref (r 6), .ref (r 7), .ref (r 8), .ref (r 9), .ref (r 10), .ref (r 11), .ref (r 12), .ref (r 13), .ref (r 14), .ref (r 15), .ref (r 16), .ref (r 17), .ref (r 18), .ref (r 19), .ref (r 20), .ref (r 21), .ref (r 22), .ref (r 23), .ref (r 24), .ref (r 25), .ref (r 26), .ref (r 27), .ref (r 28), .ref (r 29), .int 0, .int 0, .int 0, .int 0, .int 0, .int 0, .int (-1), .int 0, .int 0, .int 0, .int 0, .int 0, .int 0, .ref (r 43), .ref (r 44), .ref (r 45), .int 0, .ref (r 47)])), ((r 14), .inl (cZ, 2000, .inl g)), ((r 25), .inl (cI, 780, .inl (F 25))), ((r 28), .inl (cI, 5, .inl (F 28))), ((r 29), .inl (cI, 18000, .inl (F 29))), ((r 26), .inl (cB, 27000, .inl (F 26))), ((r 27), .inl (cI, 27000, .inl (F 27))), ((r 6), .inl (cI, 5, .inl u6)), ((r 7), .inl (cI, 5, .inl u9)), ((r 8), .inl (cI, 100, .inl u12)), ((r 9), .inl (cI, 110, .inl u15)), ((r 10), .inl (cI, 110, .inl u18)), ((r 11), .inl (cI, 110, .inl u21)), ((r 12), .inl (cI, 600, .inl u24)), ((r 13), .inl (cI, 5, .inl u27)), ((r 15), .inl (cI, 80, .inl u30)), ((r 16), .inl (cI, 5, .inl u33)), ((r 17), .inl (cI, 30, .inl u36)), ((r 18), .inl (cI, 30, .inl u39)), ((r 19), .inl (cI, 30, .inl u42)), ((r 20), .inl (cI, 30, .inl u45)), ((r 21), .inl (cI, 30, .inl u48)), ((r 22), .inl (cI, 30, .inl u51)), ((r 23), .inl (cI, 30, .inl u54)), ((r 24), .inl (cI, 30, .inl u57))] H58 := hP
    have hD : va_D A [((r 0), .inr (8, [.int 0, .ref (r 1), .int 0, .ref (r 3), .ref (r 4), .ref (r 5), .ref (r 6), .ref (r 7), .ref (r 8), .ref (r 9), .ref (r 10), .ref (r 11), .ref (r 12), .ref (r 13), .ref (r 14), .ref (r 15), .ref (r 16), .ref (r 17), .ref (r 18), .ref (r 19), .ref (r 20), .ref (r 21), .ref (r 22), .ref (r 23), .ref (r 24), .ref (r 25), .ref (r 26), .ref (r 27), .ref (r 28), .ref (r 29), .int 0, .int 0, .int 0, .int 0, .int 0, .int 0, .int (-1), .int 0, .int 0, .int 0, .int 0, .int 0, .int 0, .ref (r 43), .ref (r 44), .ref (r 45), .int 0, .ref (r 47)])), ((r 14), .inl (cZ, 2000, .inl g)), ((r 25), .inl (cI, 780, .inl (F 25))), ((r 28), .inl (cI, 5, .inl (F 28))), ((r 29), .inl (cI, 18000, .inl (F 29))), ((r 26), .inl (cB, 27000, .inl (F 26))), ((r 27), .inl (cI, 27000, .inl (F 27))), ((r 6), .inl (cI, 5, .inl u6)), ((r 7), .inl (cI, 5, .inl u9)), ((r 8), .inl (cI, 100, .inl u12)), ((r 9), .inl (cI, 110, .inl u15)), ((r 10), .inl (cI, 110, .inl u18)), ((r 11), .inl (cI, 110, .inl u21)), ((r 12), .inl (cI, 600, .inl u24)), ((r 13), .inl (cI, 5, .inl u27)), ((r 15), .inl (cI, 80, .inl u30)), ((r 16), .inl (cI, 5, .inl u33)), ((r 17), .inl (cI, 30, .inl u36)), ((r 18), .inl (cI, 30, .inl u39)), ((r 19), .inl (cI, 30, .inl u42)), ((r 20), .inl (cI, 30, .inl u45)), ((r 21), .inl (cI, 30, .inl u48)), ((r 22), .inl (cI, 30, .inl u51)), ((r 23), .inl (cI, 30, .inl u54)), ((r 24), .inl (cI, 30, .inl u57))] := hD
    refine lv_aload_n hx hb dX8_copy_311 rfl (lv_at hl 0 rfl) ?_
    refine va_get (D := (dC, dI)) (ci := 8) (v := .ref (r 25)) (C := RX8) (T := TX8) (N := 48) hx hb hts in_m_copy_X8 hown hK hP 0 rfl rfl 25 (by decide) (hts (.fieldLink RX8 83 "DepotMarchModel" "names" "[I") (by decide +kernel)) (fun _ h9 => h9) rfl dX8_copy_312 ?_
    refine lv_sipush (v := 156) hx hb dX8_copy_315 (by decide) ?_
    refine lv_iload_n hx hb dX8_copy_318 rfl (lv_at hl 1 rfl) ?_
    refine lv_iload_n hx hb dX8_copy_319 rfl (lv_at hl 2 rfl) ?_
    have hPc := hP.sub (ws' := [((r 25), .inl (cI, 780, .inl (F 25)))]) [2] rfl
    have hDc := hD.sub (ws' := [((r 25), .inl (cI, 780, .inl (F 25)))]) [2] (by decide) rfl
    have hFc := va_free (wc := [((r 25), .inl (cI, 780, .inl (F 25)))]) hD hS hA [2] rfl
    refine va_callv (va_runS (As := [.ref (r 25), .int 156, .int (nI fr), .int (nI to)]) (rest := []) ⟨hx, hb, hml, hown, hts⟩ ((c_moveInts l dC dI cI cZ cB cJ cP cW (r 25) 780 156 fr to (F 25) H58.size) (by decide) (by omega) (by omega) (by omega)) (va_cwS 4 hts g129_m_copy_moveInts rfl rfl rfl (by decide +kernel) ⟨Nat.le_of_ble_eq_true rfl, Nat.le_of_ble_eq_true rfl⟩) ⟨fbM, fun U hU hW => ⟨rfl, by rw [hU], hE.warm hW, by rw [hU]; exact hPc, hDc.weaken (fun _ _ _ _ => trivial)⟩⟩ rfl rfl hl.1 rfl (lv_room (Nat.le_of_ble_eq_true rfl)) dX8_copy_320 ⟨Nat.le_of_ble_eq_true rfl, Nat.le_of_ble_eq_true rfl⟩) hS (fun q _ h => hFc q h) hFc (fun u60 t H61 locs ht hvm hr59 hB hz1 hk1 hS => ?_)
    obtain ⟨hP1, hD1⟩ := hB
    rw [ht] at hP1
    obtain ⟨hP, hD⟩ := va_join (wr := [((r 0), .inr (8, [.int 0, .ref (r 1), .int 0, .ref (r 3), .ref (r 4), .ref (r 5), .ref (r 6), .ref (r 7), .ref (r 8), .ref (r 9), .ref (r 10), .ref (r 11), .ref (r 12), .ref (r 13), .ref (r 14), .ref (r 15), .ref (r 16), .ref (r 17), .ref (r 18), .ref (r 19), .ref (r 20), .ref (r 21), .ref (r 22), .ref (r 23), .ref (r 24), .ref (r 25), .ref (r 26), .ref (r 27), .ref (r 28), .ref (r 29), .int 0, .int 0, .int 0, .int 0, .int 0, .int 0, .int (-1), .int 0, .int 0, .int 0, .int 0, .int 0, .int 0, .ref (r 43), .ref (r 44), .ref (r 45), .int 0, .ref (r 47)])), ((r 14), .inl (cZ, 2000, .inl g)), ((r 28), .inl (cI, 5, .inl (F 28))), ((r 29), .inl (cI, 18000, .inl (F 29))), ((r 26), .inl (cB, 27000, .inl (F 26))), ((r 27), .inl (cI, 27000, .inl (F 27))), ((r 6), .inl (cI, 5, .inl u6)), ((r 7), .inl (cI, 5, .inl u9)), ((r 8), .inl (cI, 100, .inl u12)), ((r 9), .inl (cI, 110, .inl u15)), ((r 10), .inl (cI, 110, .inl u18)), ((r 11), .inl (cI, 110, .inl u21)), ((r 12), .inl (cI, 600, .inl u24)), ((r 13), .inl (cI, 5, .inl u27)), ((r 15), .inl (cI, 80, .inl u30)), ((r 16), .inl (cI, 5, .inl u33)), ((r 17), .inl (cI, 30, .inl u36)), ((r 18), .inl (cI, 30, .inl u39)), ((r 19), .inl (cI, 30, .inl u42)), ((r 20), .inl (cI, 30, .inl u45)), ((r 21), .inl (cI, 30, .inl u48)), ((r 22), .inl (cI, 30, .inl u51)), ((r 23), .inl (cI, 30, .inl u54)), ((r 24), .inl (cI, 30, .inl u57))]) (w1 := [((r 25), .inl (cI, 780, .inl u60))]) hP hD [2] [0, 1, 3, 4, 5, 6, 7, 8, 9, 10, 11, 12, 13, 14, 15, 16, 17, 18, 19, 20, 21, 22, 23, 24] rfl rfl (by decide) (by decide) hk1 hFc hP1 hD1
    have hP : va_P (dC, dI) vwCl [((r 0), .inr (8, [.int 0, .ref (r 1), .int 0, .ref (r 3), .ref (r 4), .ref (r 5), .ref (r 6), .ref (r 7), .ref (r 8), .ref (r 9), .ref (r 10), .ref (r 11), .ref (r 12), .ref (r 13), .ref (r 14), .ref (r 15), .ref (r 16), .ref (r 17), .ref (r 18), .ref (r 19), .ref (r 20), .ref (r 21), .ref (r 22), .ref (r 23), .ref (r 24), .ref (r 25), .ref (r 26), .ref (r 27), .ref (r 28), .ref (r 29), .int 0, .int 0, .int 0, .int 0, .int 0, .int 0, .int (-1), .int 0, .int 0, .int 0, .int 0, .int 0, .int 0, .ref (r 43), .ref (r 44), .ref (r 45), .int 0, .ref (r 47)])), ((r 14), .inl (cZ, 2000, .inl g)), ((r 28), .inl (cI, 5, .inl (F 28))), ((r 29), .inl (cI, 18000, .inl (F 29))), ((r 26), .inl (cB, 27000, .inl (F 26))), ((r 27), .inl (cI, 27000, .inl (F 27))), ((r 6), .inl (cI, 5, .inl u6)), ((r 7), .inl (cI, 5, .inl u9)), ((r 8), .inl (cI, 100, .inl u12)), ((r 9), .inl (cI, 110, .inl u15)), ((r 10), .inl (cI, 110, .inl u18)), ((r 11), .inl (cI, 110, .inl u21)), ((r 12), .inl (cI, 600, .inl u24)), ((r 13), .inl (cI, 5, .inl u27)), ((r 15), .inl (cI, 80, .inl u30)), ((r 16), .inl (cI, 5, .inl u33)), ((r 17), .inl (cI, 30, .inl u36)), ((r 18), .inl (cI, 30, .inl u39)), ((r 19), .inl (cI, 30, .inl u42)), ((r 20), .inl (cI, 30, .inl u45)), ((r 21), .inl (cI, 30, .inl u48)), ((r 22), .inl (cI, 30, .inl u51)), ((r 23), .inl (cI, 30, .inl u54)), ((r 24), .inl (cI, 30, .inl u57)), ((r 25), .inl (cI, 780, .inl u60))] H61 := hP
    have hD : va_D A [((r 0), .inr (8, [.int 0, .ref (r 1), .int 0, .ref (r 3), .ref (r 4), .ref (r 5), .ref (r 6), .ref (r 7), .ref (r 8), .ref (r 9), .ref (r 10), .ref (r 11), .ref (r 12), .ref (r 13), .ref (r 14), .ref (r 15), .ref (r 16), .ref (r 17), .ref (r 18), .ref (r 19), .ref (r 20), .ref (r 21), .ref (r 22), .ref (r 23), .ref (r 24), .ref (r 25), .ref (r 26), .ref (r 27), .ref (r 28), .ref (r 29), .int 0, .int 0, .int 0, .int 0, .int 0, .int 0, .int (-1), .int 0, .int 0, .int 0, .int 0, .int 0, .int 0, .ref (r 43), .ref (r 44), .ref (r 45), .int 0, .ref (r 47)])), ((r 14), .inl (cZ, 2000, .inl g)), ((r 28), .inl (cI, 5, .inl (F 28))), ((r 29), .inl (cI, 18000, .inl (F 29))), ((r 26), .inl (cB, 27000, .inl (F 26))), ((r 27), .inl (cI, 27000, .inl (F 27))), ((r 6), .inl (cI, 5, .inl u6)), ((r 7), .inl (cI, 5, .inl u9)), ((r 8), .inl (cI, 100, .inl u12)), ((r 9), .inl (cI, 110, .inl u15)), ((r 10), .inl (cI, 110, .inl u18)), ((r 11), .inl (cI, 110, .inl u21)), ((r 12), .inl (cI, 600, .inl u24)), ((r 13), .inl (cI, 5, .inl u27)), ((r 15), .inl (cI, 80, .inl u30)), ((r 16), .inl (cI, 5, .inl u33)), ((r 17), .inl (cI, 30, .inl u36)), ((r 18), .inl (cI, 30, .inl u39)), ((r 19), .inl (cI, 30, .inl u42)), ((r 20), .inl (cI, 30, .inl u45)), ((r 21), .inl (cI, 30, .inl u48)), ((r 22), .inl (cI, 30, .inl u51)), ((r 23), .inl (cI, 30, .inl u54)), ((r 24), .inl (cI, 30, .inl u57)), ((r 25), .inl (cI, 780, .inl u60))] := hD
    refine lv_aload_n hx hb dX8_copy_323 rfl (lv_at hl 0 rfl) ?_
    refine va_get (D := (dC, dI)) (ci := 8) (v := .ref (r 28)) (C := RX8) (T := TX8) (N := 48) hx hb hts in_m_copy_X8 hown hK hP 0 rfl rfl 28 (by decide) (hts (.fieldLink RX8 92 "DepotMarchModel" "lines" "[I") (by decide +kernel)) (fun _ h9 => h9) rfl dX8_copy_324 ?_
    refine lv_iconst (v := 1) hx hb dX8_copy_327 (by decide) ?_
    refine lv_iload_n hx hb dX8_copy_328 rfl (lv_at hl 1 rfl) ?_
    refine lv_iload_n hx hb dX8_copy_329 rfl (lv_at hl 2 rfl) ?_
    have hPc := hP.sub (ws' := [((r 28), .inl (cI, 5, .inl (F 28)))]) [2] rfl
    have hDc := hD.sub (ws' := [((r 28), .inl (cI, 5, .inl (F 28)))]) [2] (by decide) rfl
    have hFc := va_free (wc := [((r 28), .inl (cI, 5, .inl (F 28)))]) hD hS hA [2] rfl
    refine va_callv (va_runS (As := [.ref (r 28), .int 1, .int (nI fr), .int (nI to)]) (rest := []) ⟨hx, hb, hml, hown, hts⟩ ((c_moveInts l dC dI cI cZ cB cJ cP cW (r 28) 5 1 fr to (F 28) H61.size) (by decide) (by omega) (by omega) (by omega)) (va_cwS 4 hts g129_m_copy_moveInts rfl rfl rfl (by decide +kernel) ⟨Nat.le_of_ble_eq_true rfl, Nat.le_of_ble_eq_true rfl⟩) ⟨fbM, fun U hU hW => ⟨rfl, by rw [hU], hE.warm hW, by rw [hU]; exact hPc, hDc.weaken (fun _ _ _ _ => trivial)⟩⟩ rfl rfl hl.1 rfl (lv_room (Nat.le_of_ble_eq_true rfl)) dX8_copy_330 ⟨Nat.le_of_ble_eq_true rfl, Nat.le_of_ble_eq_true rfl⟩) hS (fun q _ h => hFc q h) hFc (fun u63 t H64 locs ht hvm hr62 hB hz1 hk1 hS => ?_)
    obtain ⟨hP1, hD1⟩ := hB
    rw [ht] at hP1
    obtain ⟨hP, hD⟩ := va_join (wr := [((r 0), .inr (8, [.int 0, .ref (r 1), .int 0, .ref (r 3), .ref (r 4), .ref (r 5), .ref (r 6), .ref (r 7), .ref (r 8), .ref (r 9), .ref (r 10), .ref (r 11), .ref (r 12), .ref (r 13), .ref (r 14), .ref (r 15), .ref (r 16), .ref (r 17), .ref (r 18), .ref (r 19), .ref (r 20), .ref (r 21), .ref (r 22), .ref (r 23), .ref (r 24), .ref (r 25), .ref (r 26), .ref (r 27), .ref (r 28), .ref (r 29), .int 0, .int 0, .int 0, .int 0, .int 0, .int 0, .int (-1), .int 0, .int 0, .int 0, .int 0, .int 0, .int 0, .ref (r 43), .ref (r 44), .ref (r 45), .int 0, .ref (r 47)])), ((r 14), .inl (cZ, 2000, .inl g)), ((r 29), .inl (cI, 18000, .inl (F 29))), ((r 26), .inl (cB, 27000, .inl (F 26))), ((r 27), .inl (cI, 27000, .inl (F 27))), ((r 6), .inl (cI, 5, .inl u6)), ((r 7), .inl (cI, 5, .inl u9)), ((r 8), .inl (cI, 100, .inl u12)), ((r 9), .inl (cI, 110, .inl u15)), ((r 10), .inl (cI, 110, .inl u18)), ((r 11), .inl (cI, 110, .inl u21)), ((r 12), .inl (cI, 600, .inl u24)), ((r 13), .inl (cI, 5, .inl u27)), ((r 15), .inl (cI, 80, .inl u30)), ((r 16), .inl (cI, 5, .inl u33)), ((r 17), .inl (cI, 30, .inl u36)), ((r 18), .inl (cI, 30, .inl u39)), ((r 19), .inl (cI, 30, .inl u42)), ((r 20), .inl (cI, 30, .inl u45)), ((r 21), .inl (cI, 30, .inl u48)), ((r 22), .inl (cI, 30, .inl u51)), ((r 23), .inl (cI, 30, .inl u54)), ((r 24), .inl (cI, 30, .inl u57)), ((r 25), .inl (cI, 780, .inl u60))]) (w1 := [((r 28), .inl (cI, 5, .inl u63))]) hP hD [2] [0, 1, 3, 4, 5, 6, 7, 8, 9, 10, 11, 12, 13, 14, 15, 16, 17, 18, 19, 20, 21, 22, 23, 24] rfl rfl (by decide) (by decide) hk1 hFc hP1 hD1
    have hP : va_P (dC, dI) vwCl [((r 0), .inr (8, [.int 0, .ref (r 1), .int 0, .ref (r 3), .ref (r 4), .ref (r 5), .ref (r 6), .ref (r 7), .ref (r 8), .ref (r 9), .ref (r 10), .ref (r 11), .ref (r 12), .ref (r 13), .ref (r 14), .ref (r 15), .ref (r 16), .ref (r 17), .ref (r 18), .ref (r 19), .ref (r 20), .ref (r 21), .ref (r 22), .ref (r 23), .ref (r 24), .ref (r 25), .ref (r 26), .ref (r 27), .ref (r 28), .ref (r 29), .int 0, .int 0, .int 0, .int 0, .int 0, .int 0, .int (-1), .int 0, .int 0, .int 0, .int 0, .int 0, .int 0, .ref (r 43), .ref (r 44), .ref (r 45), .int 0, .ref (r 47)])), ((r 14), .inl (cZ, 2000, .inl g)), ((r 29), .inl (cI, 18000, .inl (F 29))), ((r 26), .inl (cB, 27000, .inl (F 26))), ((r 27), .inl (cI, 27000, .inl (F 27))), ((r 6), .inl (cI, 5, .inl u6)), ((r 7), .inl (cI, 5, .inl u9)), ((r 8), .inl (cI, 100, .inl u12)), ((r 9), .inl (cI, 110, .inl u15)), ((r 10), .inl (cI, 110, .inl u18)), ((r 11), .inl (cI, 110, .inl u21)), ((r 12), .inl (cI, 600, .inl u24)), ((r 13), .inl (cI, 5, .inl u27)), ((r 15), .inl (cI, 80, .inl u30)), ((r 16), .inl (cI, 5, .inl u33)), ((r 17), .inl (cI, 30, .inl u36)), ((r 18), .inl (cI, 30, .inl u39)), ((r 19), .inl (cI, 30, .inl u42)), ((r 20), .inl (cI, 30, .inl u45)), ((r 21), .inl (cI, 30, .inl u48)), ((r 22), .inl (cI, 30, .inl u51)), ((r 23), .inl (cI, 30, .inl u54)), ((r 24), .inl (cI, 30, .inl u57)), ((r 25), .inl (cI, 780, .inl u60)), ((r 28), .inl (cI, 5, .inl u63))] H64 := hP
    have hD : va_D A [((r 0), .inr (8, [.int 0, .ref (r 1), .int 0, .ref (r 3), .ref (r 4), .ref (r 5), .ref (r 6), .ref (r 7), .ref (r 8), .ref (r 9), .ref (r 10), .ref (r 11), .ref (r 12), .ref (r 13), .ref (r 14), .ref (r 15), .ref (r 16), .ref (r 17), .ref (r 18), .ref (r 19), .ref (r 20), .ref (r 21), .ref (r 22), .ref (r 23), .ref (r 24), .ref (r 25), .ref (r 26), .ref (r 27), .ref (r 28), .ref (r 29), .int 0, .int 0, .int 0, .int 0, .int 0, .int 0, .int (-1), .int 0, .int 0, .int 0, .int 0, .int 0, .int 0, .ref (r 43), .ref (r 44), .ref (r 45), .int 0, .ref (r 47)])), ((r 14), .inl (cZ, 2000, .inl g)), ((r 29), .inl (cI, 18000, .inl (F 29))), ((r 26), .inl (cB, 27000, .inl (F 26))), ((r 27), .inl (cI, 27000, .inl (F 27))), ((r 6), .inl (cI, 5, .inl u6)), ((r 7), .inl (cI, 5, .inl u9)), ((r 8), .inl (cI, 100, .inl u12)), ((r 9), .inl (cI, 110, .inl u15)), ((r 10), .inl (cI, 110, .inl u18)), ((r 11), .inl (cI, 110, .inl u21)), ((r 12), .inl (cI, 600, .inl u24)), ((r 13), .inl (cI, 5, .inl u27)), ((r 15), .inl (cI, 80, .inl u30)), ((r 16), .inl (cI, 5, .inl u33)), ((r 17), .inl (cI, 30, .inl u36)), ((r 18), .inl (cI, 30, .inl u39)), ((r 19), .inl (cI, 30, .inl u42)), ((r 20), .inl (cI, 30, .inl u45)), ((r 21), .inl (cI, 30, .inl u48)), ((r 22), .inl (cI, 30, .inl u51)), ((r 23), .inl (cI, 30, .inl u54)), ((r 24), .inl (cI, 30, .inl u57)), ((r 25), .inl (cI, 780, .inl u60)), ((r 28), .inl (cI, 5, .inl u63))] := hD
    refine lv_aload_n hx hb dX8_copy_333 rfl (lv_at hl 0 rfl) ?_
    refine va_get (D := (dC, dI)) (ci := 8) (v := .ref (r 29)) (C := RX8) (T := TX8) (N := 48) hx hb hts in_m_copy_X8 hown hK hP 0 rfl rfl 29 (by decide) (hts (.fieldLink RX8 95 "DepotMarchModel" "book" "[I") (by decide +kernel)) (fun _ h9 => h9) rfl dX8_copy_334 ?_
    refine lv_sipush (v := 3600) hx hb dX8_copy_337 (by decide) ?_
    refine lv_iload_n hx hb dX8_copy_340 rfl (lv_at hl 1 rfl) ?_
    refine lv_iload_n hx hb dX8_copy_341 rfl (lv_at hl 2 rfl) ?_
    have hPc := hP.sub (ws' := [((r 29), .inl (cI, 18000, .inl (F 29)))]) [2] rfl
    have hDc := hD.sub (ws' := [((r 29), .inl (cI, 18000, .inl (F 29)))]) [2] (by decide) rfl
    have hFc := va_free (wc := [((r 29), .inl (cI, 18000, .inl (F 29)))]) hD hS hA [2] rfl
    refine va_callv (va_runS (As := [.ref (r 29), .int 3600, .int (nI fr), .int (nI to)]) (rest := []) ⟨hx, hb, hml, hown, hts⟩ ((c_moveInts l dC dI cI cZ cB cJ cP cW (r 29) 18000 3600 fr to (F 29) H64.size) (by decide) (by omega) (by omega) (by omega)) (va_cwS 4 hts g129_m_copy_moveInts rfl rfl rfl (by decide +kernel) ⟨Nat.le_of_ble_eq_true rfl, Nat.le_of_ble_eq_true rfl⟩) ⟨fbM, fun U hU hW => ⟨rfl, by rw [hU], hE.warm hW, by rw [hU]; exact hPc, hDc.weaken (fun _ _ _ _ => trivial)⟩⟩ rfl rfl hl.1 rfl (lv_room (Nat.le_of_ble_eq_true rfl)) dX8_copy_342 ⟨Nat.le_of_ble_eq_true rfl, Nat.le_of_ble_eq_true rfl⟩) hS (fun q _ h => hFc q h) hFc (fun u66 t H67 locs ht hvm hr65 hB hz1 hk1 hS => ?_)
    obtain ⟨hP1, hD1⟩ := hB
    rw [ht] at hP1
    obtain ⟨hP, hD⟩ := va_join (wr := [((r 0), .inr (8, [.int 0, .ref (r 1), .int 0, .ref (r 3), .ref (r 4), .ref (r 5), .ref (r 6), .ref (r 7), .ref (r 8), .ref (r 9), .ref (r 10), .ref (r 11), .ref (r 12), .ref (r 13), .ref (r 14), .ref (r 15), .ref (r 16), .ref (r 17), .ref (r 18), .ref (r 19), .ref (r 20), .ref (r 21), .ref (r 22), .ref (r 23), .ref (r 24), .ref (r 25), .ref (r 26), .ref (r 27), .ref (r 28), .ref (r 29), .int 0, .int 0, .int 0, .int 0, .int 0, .int 0, .int (-1), .int 0, .int 0, .int 0, .int 0, .int 0, .int 0, .ref (r 43), .ref (r 44), .ref (r 45), .int 0, .ref (r 47)])), ((r 14), .inl (cZ, 2000, .inl g)), ((r 26), .inl (cB, 27000, .inl (F 26))), ((r 27), .inl (cI, 27000, .inl (F 27))), ((r 6), .inl (cI, 5, .inl u6)), ((r 7), .inl (cI, 5, .inl u9)), ((r 8), .inl (cI, 100, .inl u12)), ((r 9), .inl (cI, 110, .inl u15)), ((r 10), .inl (cI, 110, .inl u18)), ((r 11), .inl (cI, 110, .inl u21)), ((r 12), .inl (cI, 600, .inl u24)), ((r 13), .inl (cI, 5, .inl u27)), ((r 15), .inl (cI, 80, .inl u30)), ((r 16), .inl (cI, 5, .inl u33)), ((r 17), .inl (cI, 30, .inl u36)), ((r 18), .inl (cI, 30, .inl u39)), ((r 19), .inl (cI, 30, .inl u42)), ((r 20), .inl (cI, 30, .inl u45)), ((r 21), .inl (cI, 30, .inl u48)), ((r 22), .inl (cI, 30, .inl u51)), ((r 23), .inl (cI, 30, .inl u54)), ((r 24), .inl (cI, 30, .inl u57)), ((r 25), .inl (cI, 780, .inl u60)), ((r 28), .inl (cI, 5, .inl u63))]) (w1 := [((r 29), .inl (cI, 18000, .inl u66))]) hP hD [2] [0, 1, 3, 4, 5, 6, 7, 8, 9, 10, 11, 12, 13, 14, 15, 16, 17, 18, 19, 20, 21, 22, 23, 24] rfl rfl (by decide) (by decide) hk1 hFc hP1 hD1
    have hP : va_P (dC, dI) vwCl [((r 0), .inr (8, [.int 0, .ref (r 1), .int 0, .ref (r 3), .ref (r 4), .ref (r 5), .ref (r 6), .ref (r 7), .ref (r 8), .ref (r 9), .ref (r 10), .ref (r 11), .ref (r 12), .ref (r 13), .ref (r 14), .ref (r 15), .ref (r 16), .ref (r 17), .ref (r 18), .ref (r 19), .ref (r 20), .ref (r 21), .ref (r 22), .ref (r 23), .ref (r 24), .ref (r 25), .ref (r 26), .ref (r 27), .ref (r 28), .ref (r 29), .int 0, .int 0, .int 0, .int 0, .int 0, .int 0, .int (-1), .int 0, .int 0, .int 0, .int 0, .int 0, .int 0, .ref (r 43), .ref (r 44), .ref (r 45), .int 0, .ref (r 47)])), ((r 14), .inl (cZ, 2000, .inl g)), ((r 26), .inl (cB, 27000, .inl (F 26))), ((r 27), .inl (cI, 27000, .inl (F 27))), ((r 6), .inl (cI, 5, .inl u6)), ((r 7), .inl (cI, 5, .inl u9)), ((r 8), .inl (cI, 100, .inl u12)), ((r 9), .inl (cI, 110, .inl u15)), ((r 10), .inl (cI, 110, .inl u18)), ((r 11), .inl (cI, 110, .inl u21)), ((r 12), .inl (cI, 600, .inl u24)), ((r 13), .inl (cI, 5, .inl u27)), ((r 15), .inl (cI, 80, .inl u30)), ((r 16), .inl (cI, 5, .inl u33)), ((r 17), .inl (cI, 30, .inl u36)), ((r 18), .inl (cI, 30, .inl u39)), ((r 19), .inl (cI, 30, .inl u42)), ((r 20), .inl (cI, 30, .inl u45)), ((r 21), .inl (cI, 30, .inl u48)), ((r 22), .inl (cI, 30, .inl u51)), ((r 23), .inl (cI, 30, .inl u54)), ((r 24), .inl (cI, 30, .inl u57)), ((r 25), .inl (cI, 780, .inl u60)), ((r 28), .inl (cI, 5, .inl u63)), ((r 29), .inl (cI, 18000, .inl u66))] H67 := hP
    have hD : va_D A [((r 0), .inr (8, [.int 0, .ref (r 1), .int 0, .ref (r 3), .ref (r 4), .ref (r 5), .ref (r 6), .ref (r 7), .ref (r 8), .ref (r 9), .ref (r 10), .ref (r 11), .ref (r 12), .ref (r 13), .ref (r 14), .ref (r 15), .ref (r 16), .ref (r 17), .ref (r 18), .ref (r 19), .ref (r 20), .ref (r 21), .ref (r 22), .ref (r 23), .ref (r 24), .ref (r 25), .ref (r 26), .ref (r 27), .ref (r 28), .ref (r 29), .int 0, .int 0, .int 0, .int 0, .int 0, .int 0, .int (-1), .int 0, .int 0, .int 0, .int 0, .int 0, .int 0, .ref (r 43), .ref (r 44), .ref (r 45), .int 0, .ref (r 47)])), ((r 14), .inl (cZ, 2000, .inl g)), ((r 26), .inl (cB, 27000, .inl (F 26))), ((r 27), .inl (cI, 27000, .inl (F 27))), ((r 6), .inl (cI, 5, .inl u6)), ((r 7), .inl (cI, 5, .inl u9)), ((r 8), .inl (cI, 100, .inl u12)), ((r 9), .inl (cI, 110, .inl u15)), ((r 10), .inl (cI, 110, .inl u18)), ((r 11), .inl (cI, 110, .inl u21)), ((r 12), .inl (cI, 600, .inl u24)), ((r 13), .inl (cI, 5, .inl u27)), ((r 15), .inl (cI, 80, .inl u30)), ((r 16), .inl (cI, 5, .inl u33)), ((r 17), .inl (cI, 30, .inl u36)), ((r 18), .inl (cI, 30, .inl u39)), ((r 19), .inl (cI, 30, .inl u42)), ((r 20), .inl (cI, 30, .inl u45)), ((r 21), .inl (cI, 30, .inl u48)), ((r 22), .inl (cI, 30, .inl u51)), ((r 23), .inl (cI, 30, .inl u54)), ((r 24), .inl (cI, 30, .inl u57)), ((r 25), .inl (cI, 780, .inl u60)), ((r 28), .inl (cI, 5, .inl u63)), ((r 29), .inl (cI, 18000, .inl u66))] := hD
    refine lv_iconst (v := 0) hx hb dX8_copy_345 (by decide) ?_
    refine lv_istore (lv' := [(4, .int 0), (0, .ref (r 0)), (1, .int (nI fr)), (2, .int (nI to))]) hx hb dX8_copy_346 hl (by decide) rfl (fun ls hl => ?_)
    have hl := lv_sub hl [1, 2, 3, 0] rfl
    refine W_loop (σ := Nat × (Nat → Int32) × (Nat → Int32)) (fun x9 => match x9 with | (k, go, gv) => 5400 - k) (fun x9 H68 locs ls => match x9 with | (k, go, gv) => (k ≤ 5400) ∧ va_P (dC, dI) vwCl [((r 0), .inr (8, [.int 0, .ref (r 1), .int 0, .ref (r 3), .ref (r 4), .ref (r 5), .ref (r 6), .ref (r 7), .ref (r 8), .ref (r 9), .ref (r 10), .ref (r 11), .ref (r 12), .ref (r 13), .ref (r 14), .ref (r 15), .ref (r 16), .ref (r 17), .ref (r 18), .ref (r 19), .ref (r 20), .ref (r 21), .ref (r 22), .ref (r 23), .ref (r 24), .ref (r 25), .ref (r 26), .ref (r 27), .ref (r 28), .ref (r 29), .int 0, .int 0, .int 0, .int 0, .int 0, .int 0, .int (-1), .int 0, .int 0, .int 0, .int 0, .int 0, .int 0, .ref (r 43), .ref (r 44), .ref (r 45), .int 0, .ref (r 47)])), ((r 14), .inl (cZ, 2000, .inl g)), ((r 26), .inl (cB, 27000, .inl go)), ((r 27), .inl (cI, 27000, .inl gv)), ((r 6), .inl (cI, 5, .inl u6)), ((r 7), .inl (cI, 5, .inl u9)), ((r 8), .inl (cI, 100, .inl u12)), ((r 9), .inl (cI, 110, .inl u15)), ((r 10), .inl (cI, 110, .inl u18)), ((r 11), .inl (cI, 110, .inl u21)), ((r 12), .inl (cI, 600, .inl u24)), ((r 13), .inl (cI, 5, .inl u27)), ((r 15), .inl (cI, 80, .inl u30)), ((r 16), .inl (cI, 5, .inl u33)), ((r 17), .inl (cI, 30, .inl u36)), ((r 18), .inl (cI, 30, .inl u39)), ((r 19), .inl (cI, 30, .inl u42)), ((r 20), .inl (cI, 30, .inl u45)), ((r 21), .inl (cI, 30, .inl u48)), ((r 22), .inl (cI, 30, .inl u51)), ((r 23), .inl (cI, 30, .inl u54)), ((r 24), .inl (cI, 30, .inl u57)), ((r 25), .inl (cI, 780, .inl u60)), ((r 28), .inl (cI, 5, .inl u63)), ((r 29), .inl (cI, 18000, .inl u66))] H68 ∧ va_D A [((r 0), .inr (8, [.int 0, .ref (r 1), .int 0, .ref (r 3), .ref (r 4), .ref (r 5), .ref (r 6), .ref (r 7), .ref (r 8), .ref (r 9), .ref (r 10), .ref (r 11), .ref (r 12), .ref (r 13), .ref (r 14), .ref (r 15), .ref (r 16), .ref (r 17), .ref (r 18), .ref (r 19), .ref (r 20), .ref (r 21), .ref (r 22), .ref (r 23), .ref (r 24), .ref (r 25), .ref (r 26), .ref (r 27), .ref (r 28), .ref (r 29), .int 0, .int 0, .int 0, .int 0, .int 0, .int 0, .int (-1), .int 0, .int 0, .int 0, .int 0, .int 0, .int 0, .ref (r 43), .ref (r 44), .ref (r 45), .int 0, .ref (r 47)])), ((r 14), .inl (cZ, 2000, .inl g)), ((r 26), .inl (cB, 27000, .inl go)), ((r 27), .inl (cI, 27000, .inl gv)), ((r 6), .inl (cI, 5, .inl u6)), ((r 7), .inl (cI, 5, .inl u9)), ((r 8), .inl (cI, 100, .inl u12)), ((r 9), .inl (cI, 110, .inl u15)), ((r 10), .inl (cI, 110, .inl u18)), ((r 11), .inl (cI, 110, .inl u21)), ((r 12), .inl (cI, 600, .inl u24)), ((r 13), .inl (cI, 5, .inl u27)), ((r 15), .inl (cI, 80, .inl u30)), ((r 16), .inl (cI, 5, .inl u33)), ((r 17), .inl (cI, 30, .inl u36)), ((r 18), .inl (cI, 30, .inl u39)), ((r 19), .inl (cI, 30, .inl u42)), ((r 20), .inl (cI, 30, .inl u45)), ((r 21), .inl (cI, 30, .inl u48)), ((r 22), .inl (cI, 30, .inl u51)), ((r 23), .inl (cI, 30, .inl u54)), ((r 24), .inl (cI, 30, .inl u57)), ((r 25), .inl (cI, 780, .inl u60)), ((r 28), .inl (cI, 5, .inl u63)), ((r 29), .inl (cI, 18000, .inl u66))] ∧ va_S A s.heap H68 locs ∧ lv_has ls 5 [(0, .ref (r 0)), (1, .int (nI fr)), (2, .int (nI to)), (4, .int (nI k))]) (fun x9 H68 locs ls hI9 ih => ?_) (0, F 26, F 27) _ _ _ ⟨Nat.zero_le _, hP.sub [0, 1, 2, 3, 4, 5, 6, 7, 8, 9, 10, 11, 12, 13, 14, 15, 16, 17, 18, 19, 20, 21, 22, 23, 24] rfl, hD.sub [0, 1, 2, 3, 4, 5, 6, 7, 8, 9, 10, 11, 12, 13, 14, 15, 16, 17, 18, 19, 20, 21, 22, 23, 24] (by decide) rfl, hS, hl⟩
    obtain ⟨k, go, gv⟩ := x9
    dsimp only at hI9
    obtain ⟨hinv, hP, hD, hS, hl⟩ := hI9
    refine lv_iload hx hb dX8_copy_348 (lv_at hl 3 rfl) ?_
    refine lv_sipush (v := 5400) hx hb dX8_copy_350 (by decide) ?_
    refine lv_icmp_ge (tgt := 414) hx hb dX8_copy_353 (by decide) (fun c69 => ?_) (fun c69 => ?_)
    · have hP9 := hP.sub (ws' := [((r 0), .inr (8, [.int 0, .ref (r 1), .int 0, .ref (r 3), .ref (r 4), .ref (r 5), .ref (r 6), .ref (r 7), .ref (r 8), .ref (r 9), .ref (r 10), .ref (r 11), .ref (r 12), .ref (r 13), .ref (r 14), .ref (r 15), .ref (r 16), .ref (r 17), .ref (r 18), .ref (r 19), .ref (r 20), .ref (r 21), .ref (r 22), .ref (r 23), .ref (r 24), .ref (r 25), .ref (r 26), .ref (r 27), .ref (r 28), .ref (r 29), .int 0, .int 0, .int 0, .int 0, .int 0, .int 0, .int (-1), .int 0, .int 0, .int 0, .int 0, .int 0, .int 0, .ref (r 43), .ref (r 44), .ref (r 45), .int 0, .ref (r 47)])), ((r 14), .inl (cZ, 2000, .inl g)), ((r 6), .inl (cI, 5, .inl u6)), ((r 7), .inl (cI, 5, .inl u9)), ((r 8), .inl (cI, 100, .inl u12)), ((r 9), .inl (cI, 110, .inl u15)), ((r 10), .inl (cI, 110, .inl u18)), ((r 11), .inl (cI, 110, .inl u21)), ((r 12), .inl (cI, 600, .inl u24)), ((r 13), .inl (cI, 5, .inl u27)), ((r 15), .inl (cI, 80, .inl u30)), ((r 16), .inl (cI, 5, .inl u33)), ((r 17), .inl (cI, 30, .inl u36)), ((r 18), .inl (cI, 30, .inl u39)), ((r 19), .inl (cI, 30, .inl u42)), ((r 20), .inl (cI, 30, .inl u45)), ((r 21), .inl (cI, 30, .inl u48)), ((r 22), .inl (cI, 30, .inl u51)), ((r 23), .inl (cI, 30, .inl u54)), ((r 24), .inl (cI, 30, .inl u57)), ((r 25), .inl (cI, 780, .inl u60)), ((r 28), .inl (cI, 5, .inl u63)), ((r 29), .inl (cI, 18000, .inl u66)), ((r 26), .inl (cB, 27000, .inl go)), ((r 27), .inl (cI, 27000, .inl gv))]) [0, 1, 4, 5, 6, 7, 8, 9, 10, 11, 12, 13, 14, 15, 16, 17, 18, 19, 20, 21, 22, 23, 24, 2, 3] rfl
      have hD9 := hD.sub (ws' := [((r 0), .inr (8, [.int 0, .ref (r 1), .int 0, .ref (r 3), .ref (r 4), .ref (r 5), .ref (r 6), .ref (r 7), .ref (r 8), .ref (r 9), .ref (r 10), .ref (r 11), .ref (r 12), .ref (r 13), .ref (r 14), .ref (r 15), .ref (r 16), .ref (r 17), .ref (r 18), .ref (r 19), .ref (r 20), .ref (r 21), .ref (r 22), .ref (r 23), .ref (r 24), .ref (r 25), .ref (r 26), .ref (r 27), .ref (r 28), .ref (r 29), .int 0, .int 0, .int 0, .int 0, .int 0, .int 0, .int (-1), .int 0, .int 0, .int 0, .int 0, .int 0, .int 0, .ref (r 43), .ref (r 44), .ref (r 45), .int 0, .ref (r 47)])), ((r 14), .inl (cZ, 2000, .inl g)), ((r 6), .inl (cI, 5, .inl u6)), ((r 7), .inl (cI, 5, .inl u9)), ((r 8), .inl (cI, 100, .inl u12)), ((r 9), .inl (cI, 110, .inl u15)), ((r 10), .inl (cI, 110, .inl u18)), ((r 11), .inl (cI, 110, .inl u21)), ((r 12), .inl (cI, 600, .inl u24)), ((r 13), .inl (cI, 5, .inl u27)), ((r 15), .inl (cI, 80, .inl u30)), ((r 16), .inl (cI, 5, .inl u33)), ((r 17), .inl (cI, 30, .inl u36)), ((r 18), .inl (cI, 30, .inl u39)), ((r 19), .inl (cI, 30, .inl u42)), ((r 20), .inl (cI, 30, .inl u45)), ((r 21), .inl (cI, 30, .inl u48)), ((r 22), .inl (cI, 30, .inl u51)), ((r 23), .inl (cI, 30, .inl u54)), ((r 24), .inl (cI, 30, .inl u57)), ((r 25), .inl (cI, 780, .inl u60)), ((r 28), .inl (cI, 5, .inl u63)), ((r 29), .inl (cI, 18000, .inl u66)), ((r 26), .inl (cB, 27000, .inl go)), ((r 27), .inl (cI, 27000, .inl gv))]) [0, 1, 4, 5, 6, 7, 8, 9, 10, 11, 12, 13, 14, 15, 16, 17, 18, 19, 20, 21, 22, 23, 24, 2, 3] (by decide) rfl
      refine W.widen (k := 0) (n := 0) (by decide) (by decide) ?_
      exact W.vret hx hb hr (fun t ht hW => ⟨⟨(fun k => [(fun _ => 0), (fun _ => 0), (fun _ => 0), (fun _ => 0), (fun _ => 0), (fun _ => 0), u6, u9, u12, u15, u18, u21, u24, u27, g, u30, u33, u36, u39, u42, u45, u48, u51, u54, u57, u60, go, gv, u63, u66].getD k (fun _ => 0)), rfl, (⟨fun j hj => hr5.1 j (by omega), (by have h9 := hr5.2 0 (by decide); rw [Nat.one_mul, Nat.one_mul] at h9; exact h9), fun j hj => hr26.1 j (by omega), fun j hj => hr32.1 j (by omega), fun j hj => hr20.1 j hj⟩), by rw [ht]; exact hP9, hD9⟩, hS.F ht⟩) hS.2.2 dX8_copy_414
    · have hk : k < 5400 := Nat.lt_of_not_le (fun h => absurd (nI_le (a := 5400) h (by omega)) c69)
      refine lv_aload_n hx hb dX8_copy_356 rfl (lv_at hl 0 rfl) ?_
      refine va_get (D := (dC, dI)) (ci := 8) (v := .ref (r 26)) (C := RX8) (T := TX8) (N := 48) hx hb hts in_m_copy_X8 hown hK hP 0 rfl rfl 26 (by decide) (hts (.fieldLink RX8 86 "DepotMarchModel" "op" "[B") (by decide +kernel)) (fun _ h9 => h9) rfl dX8_copy_357 ?_
      refine lv_sipush (v := 5400) hx hb dX8_copy_360 (by decide) ?_
      refine lv_iload_n hx hb dX8_copy_363 rfl (lv_at hl 2 rfl) ?_
      refine lv_imul hx hb dX8_copy_364 ?_
      refine lv_topi (fun x70 ex70 => ?_)
      obtain rfl : x70 = (nI (5400 * to)) := ex70.trans (pk_mul 5400 to)
      refine lv_iload hx hb dX8_copy_365 (lv_at hl 3 rfl) ?_
      refine lv_iadd hx hb dX8_copy_367 ?_
      refine lv_topi (fun x71 ex71 => ?_)
      obtain rfl : x71 = (nI (5400 * to + k)) := ex71.trans (nI_add _ _)
      refine lv_aload_n hx hb dX8_copy_368 rfl (lv_at hl 0 rfl) ?_
      refine va_get (D := (dC, dI)) (ci := 8) (v := .ref (r 26)) (C := RX8) (T := TX8) (N := 48) hx hb hts in_m_copy_X8 hown hK hP 0 rfl rfl 26 (by decide) (hts (.fieldLink RX8 86 "DepotMarchModel" "op" "[B") (by decide +kernel)) (fun _ h9 => h9) rfl dX8_copy_369 ?_
      refine lv_sipush (v := 5400) hx hb dX8_copy_372 (by decide) ?_
      refine lv_iload_n hx hb dX8_copy_375 rfl (lv_at hl 1 rfl) ?_
      refine lv_imul hx hb dX8_copy_376 ?_
      refine lv_topi (fun x72 ex72 => ?_)
      obtain rfl : x72 = (nI (5400 * fr)) := ex72.trans (pk_mul 5400 fr)
      refine lv_iload hx hb dX8_copy_377 (lv_at hl 3 rfl) ?_
      refine lv_iadd hx hb dX8_copy_379 ?_
      refine lv_topi (fun x73 ex73 => ?_)
      obtain rfl : x73 = (nI (5400 * fr + k)) := ex73.trans (nI_add _ _)
      refine va_bald hx hb hK hP 2 2 rfl rfl (vp_in_nI (by omega) (by decide)) dX8_copy_380 ?_
      refine lv_topi (fun x74 ex74 => ?_)
      refine va_bast hx hb hK hP hD hS 2 2 rfl rfl (vp_in_nI (by omega) (by decide)) dX8_copy_381 (fun H75 locs hP hD hS => ?_)
      have hP : va_P (dC, dI) vwCl [((r 0), .inr (8, [.int 0, .ref (r 1), .int 0, .ref (r 3), .ref (r 4), .ref (r 5), .ref (r 6), .ref (r 7), .ref (r 8), .ref (r 9), .ref (r 10), .ref (r 11), .ref (r 12), .ref (r 13), .ref (r 14), .ref (r 15), .ref (r 16), .ref (r 17), .ref (r 18), .ref (r 19), .ref (r 20), .ref (r 21), .ref (r 22), .ref (r 23), .ref (r 24), .ref (r 25), .ref (r 26), .ref (r 27), .ref (r 28), .ref (r 29), .int 0, .int 0, .int 0, .int 0, .int 0, .int 0, .int (-1), .int 0, .int 0, .int 0, .int 0, .int 0, .int 0, .ref (r 43), .ref (r 44), .ref (r 45), .int 0, .ref (r 47)])), ((r 14), .inl (cZ, 2000, .inl g)), ((r 26), .inl (cB, 27000, .inl (upd go (nI (5400 * to + k)).toNatClampNeg (vp_nar .byte x74)))), ((r 27), .inl (cI, 27000, .inl gv)), ((r 6), .inl (cI, 5, .inl u6)), ((r 7), .inl (cI, 5, .inl u9)), ((r 8), .inl (cI, 100, .inl u12)), ((r 9), .inl (cI, 110, .inl u15)), ((r 10), .inl (cI, 110, .inl u18)), ((r 11), .inl (cI, 110, .inl u21)), ((r 12), .inl (cI, 600, .inl u24)), ((r 13), .inl (cI, 5, .inl u27)), ((r 15), .inl (cI, 80, .inl u30)), ((r 16), .inl (cI, 5, .inl u33)), ((r 17), .inl (cI, 30, .inl u36)), ((r 18), .inl (cI, 30, .inl u39)), ((r 19), .inl (cI, 30, .inl u42)), ((r 20), .inl (cI, 30, .inl u45)), ((r 21), .inl (cI, 30, .inl u48)), ((r 22), .inl (cI, 30, .inl u51)), ((r 23), .inl (cI, 30, .inl u54)), ((r 24), .inl (cI, 30, .inl u57)), ((r 25), .inl (cI, 780, .inl u60)), ((r 28), .inl (cI, 5, .inl u63)), ((r 29), .inl (cI, 18000, .inl u66))] H75 := hP
      have hD : va_D A [((r 0), .inr (8, [.int 0, .ref (r 1), .int 0, .ref (r 3), .ref (r 4), .ref (r 5), .ref (r 6), .ref (r 7), .ref (r 8), .ref (r 9), .ref (r 10), .ref (r 11), .ref (r 12), .ref (r 13), .ref (r 14), .ref (r 15), .ref (r 16), .ref (r 17), .ref (r 18), .ref (r 19), .ref (r 20), .ref (r 21), .ref (r 22), .ref (r 23), .ref (r 24), .ref (r 25), .ref (r 26), .ref (r 27), .ref (r 28), .ref (r 29), .int 0, .int 0, .int 0, .int 0, .int 0, .int 0, .int (-1), .int 0, .int 0, .int 0, .int 0, .int 0, .int 0, .ref (r 43), .ref (r 44), .ref (r 45), .int 0, .ref (r 47)])), ((r 14), .inl (cZ, 2000, .inl g)), ((r 26), .inl (cB, 27000, .inl (upd go (nI (5400 * to + k)).toNatClampNeg (vp_nar .byte x74)))), ((r 27), .inl (cI, 27000, .inl gv)), ((r 6), .inl (cI, 5, .inl u6)), ((r 7), .inl (cI, 5, .inl u9)), ((r 8), .inl (cI, 100, .inl u12)), ((r 9), .inl (cI, 110, .inl u15)), ((r 10), .inl (cI, 110, .inl u18)), ((r 11), .inl (cI, 110, .inl u21)), ((r 12), .inl (cI, 600, .inl u24)), ((r 13), .inl (cI, 5, .inl u27)), ((r 15), .inl (cI, 80, .inl u30)), ((r 16), .inl (cI, 5, .inl u33)), ((r 17), .inl (cI, 30, .inl u36)), ((r 18), .inl (cI, 30, .inl u39)), ((r 19), .inl (cI, 30, .inl u42)), ((r 20), .inl (cI, 30, .inl u45)), ((r 21), .inl (cI, 30, .inl u48)), ((r 22), .inl (cI, 30, .inl u51)), ((r 23), .inl (cI, 30, .inl u54)), ((r 24), .inl (cI, 30, .inl u57)), ((r 25), .inl (cI, 780, .inl u60)), ((r 28), .inl (cI, 5, .inl u63)), ((r 29), .inl (cI, 18000, .inl u66))] := hD
      refine lv_aload_n hx hb dX8_copy_382 rfl (lv_at hl 0 rfl) ?_
      refine va_get (D := (dC, dI)) (ci := 8) (v := .ref (r 27)) (C := RX8) (T := TX8) (N := 48) hx hb hts in_m_copy_X8 hown hK hP 0 rfl rfl 27 (by decide) (hts (.fieldLink RX8 89 "DepotMarchModel" "val" "[I") (by decide +kernel)) (fun _ h9 => h9) rfl dX8_copy_383 ?_
      refine lv_sipush (v := 5400) hx hb dX8_copy_386 (by decide) ?_
      refine lv_iload_n hx hb dX8_copy_389 rfl (lv_at hl 2 rfl) ?_
      refine lv_imul hx hb dX8_copy_390 ?_
      refine lv_topi (fun x76 ex76 => ?_)
      obtain rfl : x76 = (nI (5400 * to)) := ex76.trans (pk_mul 5400 to)
      refine lv_iload hx hb dX8_copy_391 (lv_at hl 3 rfl) ?_
      refine lv_iadd hx hb dX8_copy_393 ?_
      refine lv_topi (fun x77 ex77 => ?_)
      obtain rfl : x77 = (nI (5400 * to + k)) := ex77.trans (nI_add _ _)
      refine lv_aload_n hx hb dX8_copy_394 rfl (lv_at hl 0 rfl) ?_
      refine va_get (D := (dC, dI)) (ci := 8) (v := .ref (r 27)) (C := RX8) (T := TX8) (N := 48) hx hb hts in_m_copy_X8 hown hK hP 0 rfl rfl 27 (by decide) (hts (.fieldLink RX8 89 "DepotMarchModel" "val" "[I") (by decide +kernel)) (fun _ h9 => h9) rfl dX8_copy_395 ?_
      refine lv_sipush (v := 5400) hx hb dX8_copy_398 (by decide) ?_
      refine lv_iload_n hx hb dX8_copy_401 rfl (lv_at hl 1 rfl) ?_
      refine lv_imul hx hb dX8_copy_402 ?_
      refine lv_topi (fun x78 ex78 => ?_)
      obtain rfl : x78 = (nI (5400 * fr)) := ex78.trans (pk_mul 5400 fr)
      refine lv_iload hx hb dX8_copy_403 (lv_at hl 3 rfl) ?_
      refine lv_iadd hx hb dX8_copy_405 ?_
      refine lv_topi (fun x79 ex79 => ?_)
      obtain rfl : x79 = (nI (5400 * fr + k)) := ex79.trans (nI_add _ _)
      refine va_iald hx hb hK hP 3 0 rfl rfl (vp_in_nI (by omega) (by decide)) dX8_copy_406 ?_
      refine lv_topi (fun x80 ex80 => ?_)
      refine va_iast hx hb hK hP hD hS 3 0 rfl rfl (vp_in_nI (by omega) (by decide)) dX8_copy_407 (fun H81 locs hP hD hS => ?_)
      have hP : va_P (dC, dI) vwCl [((r 0), .inr (8, [.int 0, .ref (r 1), .int 0, .ref (r 3), .ref (r 4), .ref (r 5), .ref (r 6), .ref (r 7), .ref (r 8), .ref (r 9), .ref (r 10), .ref (r 11), .ref (r 12), .ref (r 13), .ref (r 14), .ref (r 15), .ref (r 16), .ref (r 17), .ref (r 18), .ref (r 19), .ref (r 20), .ref (r 21), .ref (r 22), .ref (r 23), .ref (r 24), .ref (r 25), .ref (r 26), .ref (r 27), .ref (r 28), .ref (r 29), .int 0, .int 0, .int 0, .int 0, .int 0, .int 0, .int (-1), .int 0, .int 0, .int 0, .int 0, .int 0, .int 0, .ref (r 43), .ref (r 44), .ref (r 45), .int 0, .ref (r 47)])), ((r 14), .inl (cZ, 2000, .inl g)), ((r 26), .inl (cB, 27000, .inl (upd go (nI (5400 * to + k)).toNatClampNeg (vp_nar .byte x74)))), ((r 27), .inl (cI, 27000, .inl (upd gv (nI (5400 * to + k)).toNatClampNeg x80))), ((r 6), .inl (cI, 5, .inl u6)), ((r 7), .inl (cI, 5, .inl u9)), ((r 8), .inl (cI, 100, .inl u12)), ((r 9), .inl (cI, 110, .inl u15)), ((r 10), .inl (cI, 110, .inl u18)), ((r 11), .inl (cI, 110, .inl u21)), ((r 12), .inl (cI, 600, .inl u24)), ((r 13), .inl (cI, 5, .inl u27)), ((r 15), .inl (cI, 80, .inl u30)), ((r 16), .inl (cI, 5, .inl u33)), ((r 17), .inl (cI, 30, .inl u36)), ((r 18), .inl (cI, 30, .inl u39)), ((r 19), .inl (cI, 30, .inl u42)), ((r 20), .inl (cI, 30, .inl u45)), ((r 21), .inl (cI, 30, .inl u48)), ((r 22), .inl (cI, 30, .inl u51)), ((r 23), .inl (cI, 30, .inl u54)), ((r 24), .inl (cI, 30, .inl u57)), ((r 25), .inl (cI, 780, .inl u60)), ((r 28), .inl (cI, 5, .inl u63)), ((r 29), .inl (cI, 18000, .inl u66))] H81 := hP
      have hD : va_D A [((r 0), .inr (8, [.int 0, .ref (r 1), .int 0, .ref (r 3), .ref (r 4), .ref (r 5), .ref (r 6), .ref (r 7), .ref (r 8), .ref (r 9), .ref (r 10), .ref (r 11), .ref (r 12), .ref (r 13), .ref (r 14), .ref (r 15), .ref (r 16), .ref (r 17), .ref (r 18), .ref (r 19), .ref (r 20), .ref (r 21), .ref (r 22), .ref (r 23), .ref (r 24), .ref (r 25), .ref (r 26), .ref (r 27), .ref (r 28), .ref (r 29), .int 0, .int 0, .int 0, .int 0, .int 0, .int 0, .int (-1), .int 0, .int 0, .int 0, .int 0, .int 0, .int 0, .ref (r 43), .ref (r 44), .ref (r 45), .int 0, .ref (r 47)])), ((r 14), .inl (cZ, 2000, .inl g)), ((r 26), .inl (cB, 27000, .inl (upd go (nI (5400 * to + k)).toNatClampNeg (vp_nar .byte x74)))), ((r 27), .inl (cI, 27000, .inl (upd gv (nI (5400 * to + k)).toNatClampNeg x80))), ((r 6), .inl (cI, 5, .inl u6)), ((r 7), .inl (cI, 5, .inl u9)), ((r 8), .inl (cI, 100, .inl u12)), ((r 9), .inl (cI, 110, .inl u15)), ((r 10), .inl (cI, 110, .inl u18)), ((r 11), .inl (cI, 110, .inl u21)), ((r 12), .inl (cI, 600, .inl u24)), ((r 13), .inl (cI, 5, .inl u27)), ((r 15), .inl (cI, 80, .inl u30)), ((r 16), .inl (cI, 5, .inl u33)), ((r 17), .inl (cI, 30, .inl u36)), ((r 18), .inl (cI, 30, .inl u39)), ((r 19), .inl (cI, 30, .inl u42)), ((r 20), .inl (cI, 30, .inl u45)), ((r 21), .inl (cI, 30, .inl u48)), ((r 22), .inl (cI, 30, .inl u51)), ((r 23), .inl (cI, 30, .inl u54)), ((r 24), .inl (cI, 30, .inl u57)), ((r 25), .inl (cI, 780, .inl u60)), ((r 28), .inl (cI, 5, .inl u63)), ((r 29), .inl (cI, 18000, .inl u66))] := hD
      refine lv_iinc (v := (nI (k + 1))) (lv' := [(4, .int (nI (k + 1))), (0, .ref (r 0)), (1, .int (nI fr)), (2, .int (nI to))]) hx hb dX8_copy_408 hl (k := 3) rfl (nI_1 k) (by decide) rfl (fun ls hl => ?_)
      refine lv_goto (tgt := 348) hx hb dX8_copy_411 (by decide) ?_
      exact ih (k + 1, (upd go (nI (5400 * to + k)).toNatClampNeg (vp_nar .byte x74)), (upd gv (nI (5400 * to + k)).toNatClampNeg x80)) _ _ _ ⟨hk, hP.sub [0, 1, 2, 3, 4, 5, 6, 7, 8, 9, 10, 11, 12, 13, 14, 15, 16, 17, 18, 19, 20, 21, 22, 23, 24] rfl, hD.sub [0, 1, 2, 3, 4, 5, 6, 7, 8, 9, 10, 11, 12, 13, 14, 15, 16, 17, 18, 19, 20, 21, 22, 23, 24] (by decide) rfl, hS, lv_sub hl [1, 2, 3, 0] rfl⟩ (by show 5400 - (k + 1) < 5400 - k; omega)
  · have hk : k < 400 := Nat.lt_of_not_le (fun h => absurd (nI_le (a := 400) h (by omega)) c4)
    refine lv_aload_n hx hb dX8_copy_85 rfl (lv_at hl 0 rfl) ?_
    refine va_get (D := (dC, dI)) (ci := 8) (v := .ref (r 14)) (C := RX8) (T := TX8) (N := 48) hx hb hts in_m_copy_X8 hown hK hP 0 rfl rfl 14 (by decide) (hts (.fieldLink RX8 49 "DepotMarchModel" "storms" "[Z") (by decide +kernel)) (fun _ h9 => h9) rfl dX8_copy_86 ?_
    refine lv_sipush (v := 400) hx hb dX8_copy_89 (by decide) ?_
    refine lv_iload_n hx hb dX8_copy_92 rfl (lv_at hl 2 rfl) ?_
    refine lv_imul hx hb dX8_copy_93 ?_
    refine lv_topi (fun x82 ex82 => ?_)
    obtain rfl : x82 = (nI (400 * to)) := ex82.trans (pk_mul 400 to)
    refine lv_iload hx hb dX8_copy_94 (lv_at hl 3 rfl) ?_
    refine lv_iadd hx hb dX8_copy_96 ?_
    refine lv_topi (fun x83 ex83 => ?_)
    obtain rfl : x83 = (nI (400 * to + k)) := ex83.trans (nI_add _ _)
    refine lv_aload_n hx hb dX8_copy_97 rfl (lv_at hl 0 rfl) ?_
    refine va_get (D := (dC, dI)) (ci := 8) (v := .ref (r 14)) (C := RX8) (T := TX8) (N := 48) hx hb hts in_m_copy_X8 hown hK hP 0 rfl rfl 14 (by decide) (hts (.fieldLink RX8 49 "DepotMarchModel" "storms" "[Z") (by decide +kernel)) (fun _ h9 => h9) rfl dX8_copy_98 ?_
    refine lv_sipush (v := 400) hx hb dX8_copy_101 (by decide) ?_
    refine lv_iload_n hx hb dX8_copy_104 rfl (lv_at hl 1 rfl) ?_
    refine lv_imul hx hb dX8_copy_105 ?_
    refine lv_topi (fun x84 ex84 => ?_)
    obtain rfl : x84 = (nI (400 * fr)) := ex84.trans (pk_mul 400 fr)
    refine lv_iload hx hb dX8_copy_106 (lv_at hl 3 rfl) ?_
    refine lv_iadd hx hb dX8_copy_108 ?_
    refine lv_topi (fun x85 ex85 => ?_)
    obtain rfl : x85 = (nI (400 * fr + k)) := ex85.trans (nI_add _ _)
    refine va_zald hx hb hK hP 1 1 rfl rfl (vp_in_nI (by omega) (by decide)) dX8_copy_109 ?_
    refine lv_topi (fun x86 ex86 => ?_)
    refine va_zast hx hb hK hP hD hS 1 1 rfl rfl (vp_in_nI (by omega) (by decide)) dX8_copy_110 (fun H87 locs hP hD hS => ?_)
    have hP : va_P (dC, dI) vwCl [((r 0), .inr (8, [.int 0, .ref (r 1), .int 0, .ref (r 3), .ref (r 4), .ref (r 5), .ref (r 6), .ref (r 7), .ref (r 8), .ref (r 9), .ref (r 10), .ref (r 11), .ref (r 12), .ref (r 13), .ref (r 14), .ref (r 15), .ref (r 16), .ref (r 17), .ref (r 18), .ref (r 19), .ref (r 20), .ref (r 21), .ref (r 22), .ref (r 23), .ref (r 24), .ref (r 25), .ref (r 26), .ref (r 27), .ref (r 28), .ref (r 29), .int 0, .int 0, .int 0, .int 0, .int 0, .int 0, .int (-1), .int 0, .int 0, .int 0, .int 0, .int 0, .int 0, .ref (r 43), .ref (r 44), .ref (r 45), .int 0, .ref (r 47)])), ((r 14), .inl (cZ, 2000, .inl (upd g (nI (400 * to + k)).toNatClampNeg (vp_nar .boolean x86)))), ((r 6), .inl (cI, 5, .inl (F 6))), ((r 7), .inl (cI, 5, .inl (F 7))), ((r 8), .inl (cI, 100, .inl (F 8))), ((r 9), .inl (cI, 110, .inl (F 9))), ((r 10), .inl (cI, 110, .inl (F 10))), ((r 11), .inl (cI, 110, .inl (F 11))), ((r 12), .inl (cI, 600, .inl (F 12))), ((r 13), .inl (cI, 5, .inl (F 13))), ((r 15), .inl (cI, 80, .inl (F 15))), ((r 16), .inl (cI, 5, .inl (F 16))), ((r 17), .inl (cI, 30, .inl (F 17))), ((r 18), .inl (cI, 30, .inl (F 18))), ((r 19), .inl (cI, 30, .inl (F 19))), ((r 20), .inl (cI, 30, .inl (F 20))), ((r 21), .inl (cI, 30, .inl (F 21))), ((r 22), .inl (cI, 30, .inl (F 22))), ((r 23), .inl (cI, 30, .inl (F 23))), ((r 24), .inl (cI, 30, .inl (F 24))), ((r 25), .inl (cI, 780, .inl (F 25))), ((r 28), .inl (cI, 5, .inl (F 28))), ((r 29), .inl (cI, 18000, .inl (F 29))), ((r 26), .inl (cB, 27000, .inl (F 26))), ((r 27), .inl (cI, 27000, .inl (F 27)))] H87 := hP
    have hD : va_D A [((r 0), .inr (8, [.int 0, .ref (r 1), .int 0, .ref (r 3), .ref (r 4), .ref (r 5), .ref (r 6), .ref (r 7), .ref (r 8), .ref (r 9), .ref (r 10), .ref (r 11), .ref (r 12), .ref (r 13), .ref (r 14), .ref (r 15), .ref (r 16), .ref (r 17), .ref (r 18), .ref (r 19), .ref (r 20), .ref (r 21), .ref (r 22), .ref (r 23), .ref (r 24), .ref (r 25), .ref (r 26), .ref (r 27), .ref (r 28), .ref (r 29), .int 0, .int 0, .int 0, .int 0, .int 0, .int 0, .int (-1), .int 0, .int 0, .int 0, .int 0, .int 0, .int 0, .ref (r 43), .ref (r 44), .ref (r 45), .int 0, .ref (r 47)])), ((r 14), .inl (cZ, 2000, .inl (upd g (nI (400 * to + k)).toNatClampNeg (vp_nar .boolean x86)))), ((r 6), .inl (cI, 5, .inl (F 6))), ((r 7), .inl (cI, 5, .inl (F 7))), ((r 8), .inl (cI, 100, .inl (F 8))), ((r 9), .inl (cI, 110, .inl (F 9))), ((r 10), .inl (cI, 110, .inl (F 10))), ((r 11), .inl (cI, 110, .inl (F 11))), ((r 12), .inl (cI, 600, .inl (F 12))), ((r 13), .inl (cI, 5, .inl (F 13))), ((r 15), .inl (cI, 80, .inl (F 15))), ((r 16), .inl (cI, 5, .inl (F 16))), ((r 17), .inl (cI, 30, .inl (F 17))), ((r 18), .inl (cI, 30, .inl (F 18))), ((r 19), .inl (cI, 30, .inl (F 19))), ((r 20), .inl (cI, 30, .inl (F 20))), ((r 21), .inl (cI, 30, .inl (F 21))), ((r 22), .inl (cI, 30, .inl (F 22))), ((r 23), .inl (cI, 30, .inl (F 23))), ((r 24), .inl (cI, 30, .inl (F 24))), ((r 25), .inl (cI, 780, .inl (F 25))), ((r 28), .inl (cI, 5, .inl (F 28))), ((r 29), .inl (cI, 18000, .inl (F 29))), ((r 26), .inl (cB, 27000, .inl (F 26))), ((r 27), .inl (cI, 27000, .inl (F 27)))] := hD
    refine lv_iinc (v := (nI (k + 1))) (lv' := [(4, .int (nI (k + 1))), (0, .ref (r 0)), (1, .int (nI fr)), (2, .int (nI to))]) hx hb dX8_copy_111 hl (k := 3) rfl (nI_1 k) (by decide) rfl (fun ls hl => ?_)
    refine lv_goto (tgt := 77) hx hb dX8_copy_114 (by decide) ?_
    exact ih (k + 1, (upd g (nI (400 * to + k)).toNatClampNeg (vp_nar .boolean x86))) _ _ _ ⟨hk, hP.sub [0, 1, 2, 3, 4, 5, 6, 7, 8, 9, 10, 11, 12, 13, 14, 15, 16, 17, 18, 19, 20, 21, 22, 23, 24] rfl, hD.sub [0, 1, 2, 3, 4, 5, 6, 7, 8, 9, 10, 11, 12, 13, 14, 15, 16, 17, 18, 19, 20, 21, 22, 23, 24] (by decide) rfl, hS, lv_sub hl [1, 2, 3, 0] rfl⟩ (by show 400 - (k + 1) < 400 - k; omega)

def vs_m_tell : List Cond := [.code yX8_tell cX8_tell 5 (some .int), .fieldLink RX8 126 "DepotMarchModel" "code" "I", .fieldLink RX8 56 "DepotMarchModel" "parties" "[I", .code yX8_in cX8_in 3 (some .boolean), .methodLink RX8 140 yX8_in, .static yX8_in, .initialized RX8] ++ (wsX80)
theorem in_m_tell_X8 : ∀ w ∈ u_ws RX8 TX8 48, w ∈ vs_m_tell := fun w h => List.mem_append_right _ (h)
set_option maxRecDepth 20000 in
theorem gg_m_tell_in : GoodIn vs_m_tell vs_in := goodIn_r _ [3] (by decide +kernel) (by decide +kernel)
set_option maxRecDepth 20000 in
theorem g140_m_tell_in : GoodIn vs_m_tell (va_wsS RX8 140 yX8_in vs_in) := goodIn_app (goodIn_of _ (by decide +kernel)) gg_m_tell_in
set_option maxHeartbeats 4000000 in
set_option maxRecDepth 100000 in
theorem c_m_tell (l : Launch) (dC : Nat → ClassId) (dI : Nat → Nat → Nat) (cI cZ cB cJ cP cW : ClassId) (r : Nat → Nat) (k : Int32) (w : Int32) (sz : Nat) : Met l yX8_tell vs_m_tell ({ frames := 6, cells := 0, slots := 0, locals := 360 }) (va_Pc [.ref (r 0), .int k, .int w] (fun U => U.heap.size = sz ∧ EV dC dI cI cZ cB cJ cP cW U ∧ va_P (dC, dI) vwCl [((r 0), .inr (8, [.int 0, .ref (r 1), .int 0, .ref (r 3), .ref (r 4), .ref (r 5), .ref (r 6), .ref (r 7), .ref (r 8), .ref (r 9), .ref (r 10), .ref (r 11), .ref (r 12), .ref (r 13), .ref (r 14), .ref (r 15), .ref (r 16), .ref (r 17), .ref (r 18), .ref (r 19), .ref (r 20), .ref (r 21), .ref (r 22), .ref (r 23), .ref (r 24), .ref (r 25), .ref (r 26), .ref (r 27), .ref (r 28), .ref (r 29), .int 0, .int 0, .int 0, .int 0, .int 0, .int 0, .int (-1), .int 0, .int 0, .int 0, .int 0, .int 0, .int 0, .ref (r 43), .ref (r 44), .ref (r 45), .int 0, .ref (r 47)])), ((r 16), .inl (cI, 5, .inl (fun _ => 0)))] U.heap ∧ va_D (fun _ => True) [((r 0), .inr (8, [.int 0, .ref (r 1), .int 0, .ref (r 3), .ref (r 4), .ref (r 5), .ref (r 6), .ref (r 7), .ref (r 8), .ref (r 9), .ref (r 10), .ref (r 11), .ref (r 12), .ref (r 13), .ref (r 14), .ref (r 15), .ref (r 16), .ref (r 17), .ref (r 18), .ref (r 19), .ref (r 20), .ref (r 21), .ref (r 22), .ref (r 23), .ref (r 24), .ref (r 25), .ref (r 26), .ref (r 27), .ref (r 28), .ref (r 29), .int 0, .int 0, .int 0, .int 0, .int 0, .int 0, .int (-1), .int 0, .int 0, .int 0, .int 0, .int 0, .int 0, .ref (r 43), .ref (r 44), .ref (r 45), .int 0, .ref (r 47)])), ((r 16), .inl (cI, 5, .inl (fun _ => 0)))])) (va_Qi (fun (r : Int32) (u : Unit) => r = -1) (fun u t => va_P (dC, dI) vwCl [] t.heap ∧ va_D (va_A [((r 0), .inr (8, [.int 0, .ref (r 1), .int 0, .ref (r 3), .ref (r 4), .ref (r 5), .ref (r 6), .ref (r 7), .ref (r 8), .ref (r 9), .ref (r 10), .ref (r 11), .ref (r 12), .ref (r 13), .ref (r 14), .ref (r 15), .ref (r 16), .ref (r 17), .ref (r 18), .ref (r 19), .ref (r 20), .ref (r 21), .ref (r 22), .ref (r 23), .ref (r 24), .ref (r 25), .ref (r 26), .ref (r 27), .ref (r 28), .ref (r 29), .int 0, .int 0, .int 0, .int 0, .int 0, .int 0, .int (-1), .int 0, .int 0, .int 0, .int 0, .int 0, .int 0, .ref (r 43), .ref (r 44), .ref (r 45), .int 0, .ref (r 47)])), ((r 16), .inl (cI, 5, .inl (fun _ => 0)))] sz) []) (va_A [((r 0), .inr (8, [.int 0, .ref (r 1), .int 0, .ref (r 3), .ref (r 4), .ref (r 5), .ref (r 6), .ref (r 7), .ref (r 8), .ref (r 9), .ref (r 10), .ref (r 11), .ref (r 12), .ref (r 13), .ref (r 14), .ref (r 15), .ref (r 16), .ref (r 17), .ref (r 18), .ref (r 19), .ref (r 20), .ref (r 21), .ref (r 22), .ref (r 23), .ref (r 24), .ref (r 25), .ref (r 26), .ref (r 27), .ref (r 28), .ref (r 29), .int 0, .int 0, .int 0, .int 0, .int 0, .int 0, .int (-1), .int 0, .int 0, .int 0, .int 0, .int 0, .int 0, .ref (r 43), .ref (r 44), .ref (r 45), .int 0, .ref (r 47)])), ((r 16), .inl (cI, 5, .inl (fun _ => 0)))] sz)) 0 0 (va_A [((r 0), .inr (8, [.int 0, .ref (r 1), .int 0, .ref (r 3), .ref (r 4), .ref (r 5), .ref (r 6), .ref (r 7), .ref (r 8), .ref (r 9), .ref (r 10), .ref (r 11), .ref (r 12), .ref (r 13), .ref (r 14), .ref (r 15), .ref (r 16), .ref (r 17), .ref (r 18), .ref (r 19), .ref (r 20), .ref (r 21), .ref (r 22), .ref (r 23), .ref (r 24), .ref (r 25), .ref (r 26), .ref (r 27), .ref (r 28), .ref (r 29), .int 0, .int 0, .int 0, .int 0, .int 0, .int 0, .int (-1), .int 0, .int 0, .int 0, .int 0, .int 0, .int 0, .ref (r 43), .ref (r 44), .ref (r 45), .int 0, .ref (r 47)])), ((r 16), .inl (cI, 5, .inl (fun _ => 0)))] sz) := by
  refine Met.ofW (cc := cX8_tell) (maxL := 5) (ret := (some .int)) (by decide) rfl ?_
  intro p e s m args below meth c s₁ B hml hv
  obtain ⟨rfl, hsz, hE, hP, hD0⟩ := hv
  have hx := B.exec
  have hb := B.bytes
  have hr := B.returns
  have hts := atoms_spec (ws := vs_m_tell) B.pre
  have hown : s.vm.findClass RX8 = some m.cls := findClass_of_methodNamed B.named
  have hlocks := B.notSynchronized
  have hK := hE.2
  subst hsz
  have hD := hD0.self (sz := s.heap.size)
  generalize hAe : va_A [((r 0), .inr (8, [.int 0, .ref (r 1), .int 0, .ref (r 3), .ref (r 4), .ref (r 5), .ref (r 6), .ref (r 7), .ref (r 8), .ref (r 9), .ref (r 10), .ref (r 11), .ref (r 12), .ref (r 13), .ref (r 14), .ref (r 15), .ref (r 16), .ref (r 17), .ref (r 18), .ref (r 19), .ref (r 20), .ref (r 21), .ref (r 22), .ref (r 23), .ref (r 24), .ref (r 25), .ref (r 26), .ref (r 27), .ref (r 28), .ref (r 29), .int 0, .int 0, .int 0, .int 0, .int 0, .int 0, .int (-1), .int 0, .int 0, .int 0, .int 0, .int 0, .int 0, .ref (r 43), .ref (r 44), .ref (r 45), .int 0, .ref (r 47)])), ((r 16), .inl (cI, 5, .inl (fun _ => 0)))] s.heap.size = A at hD ⊢
  have hA : ∀ q : Nat, s.heap.size ≤ q → A q := fun q h => by rw [← hAe]; exact Or.inr h
  have hS : va_S A s.heap s.heap [] := va_S.rf
  have hl := lv_entry ([.ref (r 0), .int k, .int w]) (n := 5) (Nat.le_of_ble_eq_true rfl)
  rw [lg_entry_eq]
  generalize (lg_sl ([.ref (r 0), .int k, .int w]) ++ List.replicate (5 - (lg_sl ([.ref (r 0), .int k, .int w])).length) Slot.unset).toArray = ls at hl ⊢
  have hl : lv_has ls 5 [(0, .ref (r 0)), (1, .int k), (2, .int w)] := hl
  refine lv_aload_n hx hb dX8_tell_0 rfl (lv_at hl 0 rfl) ?_
  refine lv_iconst (v := 0) hx hb dX8_tell_1 (by decide) ?_
  refine va_put (D := (dC, dI)) (ci := 8) (v := .int 0) (ty := .int) (C := RX8) (T := TX8) (N := 48) hx hb hts in_m_tell_X8 tyX8 tyX8_ok nmX8 hown hK hP hD hS 0 rfl rfl 0 (by decide) (hts (.fieldLink RX8 126 "DepotMarchModel" "code" "I") (by decide +kernel)) (fun _ h9 => h9) rfl (by decide +kernel) rfl rfl (Nat.le_of_ble_eq_true rfl) dX8_tell_2 (fun H1 locs hP hD hS => ?_)
  have hP : va_P (dC, dI) vwCl [((r 0), .inr (8, [.int 0, .ref (r 1), .int 0, .ref (r 3), .ref (r 4), .ref (r 5), .ref (r 6), .ref (r 7), .ref (r 8), .ref (r 9), .ref (r 10), .ref (r 11), .ref (r 12), .ref (r 13), .ref (r 14), .ref (r 15), .ref (r 16), .ref (r 17), .ref (r 18), .ref (r 19), .ref (r 20), .ref (r 21), .ref (r 22), .ref (r 23), .ref (r 24), .ref (r 25), .ref (r 26), .ref (r 27), .ref (r 28), .ref (r 29), .int 0, .int 0, .int 0, .int 0, .int 0, .int 0, .int (-1), .int 0, .int 0, .int 0, .int 0, .int 0, .int 0, .ref (r 43), .ref (r 44), .ref (r 45), .int 0, .ref (r 47)])), ((r 16), .inl (cI, 5, .inl (fun _ => 0)))] H1 := hP
  have hD : va_D A [((r 0), .inr (8, [.int 0, .ref (r 1), .int 0, .ref (r 3), .ref (r 4), .ref (r 5), .ref (r 6), .ref (r 7), .ref (r 8), .ref (r 9), .ref (r 10), .ref (r 11), .ref (r 12), .ref (r 13), .ref (r 14), .ref (r 15), .ref (r 16), .ref (r 17), .ref (r 18), .ref (r 19), .ref (r 20), .ref (r 21), .ref (r 22), .ref (r 23), .ref (r 24), .ref (r 25), .ref (r 26), .ref (r 27), .ref (r 28), .ref (r 29), .int 0, .int 0, .int 0, .int 0, .int 0, .int 0, .int (-1), .int 0, .int 0, .int 0, .int 0, .int 0, .int 0, .ref (r 43), .ref (r 44), .ref (r 45), .int 0, .ref (r 47)])), ((r 16), .inl (cI, 5, .inl (fun _ => 0)))] := hD
  refine lv_iload_n hx hb dX8_tell_5 rfl (lv_at hl 1 rfl) ?_
  refine lv_iconst (v := 0) hx hb dX8_tell_6 (by decide) ?_
  refine lv_aload_n hx hb dX8_tell_7 rfl (lv_at hl 0 rfl) ?_
  refine va_get (D := (dC, dI)) (ci := 8) (v := .ref (r 16)) (C := RX8) (T := TX8) (N := 48) hx hb hts in_m_tell_X8 hown hK hP 0 rfl rfl 16 (by decide) (hts (.fieldLink RX8 56 "DepotMarchModel" "parties" "[I") (by decide +kernel)) (fun _ h9 => h9) rfl dX8_tell_8 ?_
  refine lv_iconst (v := 0) hx hb dX8_tell_11 (by decide) ?_
  refine va_iald hx hb hK hP 1 0 rfl rfl (vpd rfl) dX8_tell_12 ?_
  refine lv_topi (fun x2 ex2 => ?_)
  obtain rfl : x2 = 0 := ex2.trans rfl
  refine lv_iconst (v := 1) hx hb dX8_tell_13 (by decide) ?_
  refine lv_isub hx hb dX8_tell_14 ?_
  refine lv_topi (fun x3 ex3 => ?_)
  obtain rfl : x3 = (-1) := ex3.trans (by decide)
  refine vp_callSi (va_Run.run (va_runS (As := [.int k, .int 0, .int (-1)]) (rest := []) ⟨hx, hb, hml, hown, hts⟩ (c_in l dC dI cI cZ cB cJ cP cW k 0 (-1)) (va_cwS 3 hts g140_m_tell_in rfl rfl rfl (by decide +kernel) ⟨Nat.le_of_ble_eq_true rfl, Nat.le_of_ble_eq_true rfl⟩) ⟨fbR, fun U hU hW => ⟨rfl, hE.warm hW, by rw [hU]; exact (fun k q h => by simp at h)⟩⟩ rfl rfl hl.1 rfl (lv_room (Nat.le_of_ble_eq_true rfl)) dX8_tell_15 ⟨Nat.le_of_ble_eq_true rfl, Nat.le_of_ble_eq_true rfl⟩)) (fun r4 hr4 => ?_)
  obtain rfl : r4 = 0 := hr4.trans (inn_m _)
  refine lv_if_ne (tgt := 23) hx hb dX8_tell_18 (by decide) (fun c9 => absurd (by decide) c9) (fun _ => ?_)
  refine lv_iconst (v := (-1)) hx hb dX8_tell_21 (by decide) ?_
  have hP9 := hP.sub (ws' := []) [] rfl
  have hD9 := hD.sub (ws' := []) [] (by decide) rfl
  refine W.widen (k := 0) (n := 0) (by decide) (by decide) ?_
  exact W.iret (v := (-1)) hx hb hr (fun t ht hW => ⟨⟨(-1), (), rfl, rfl, by rw [ht]; exact hP9, hD9⟩, hS.F ht⟩) hS.2.2 dX8_tell_22

def vs_m_camp : List Cond := [.code yX8_camp cX8_camp 5 (some .int), .fieldLink RX8 126 "DepotMarchModel" "code" "I", .code yX8_in cX8_in 3 (some .boolean), .methodLink RX8 140 yX8_in, .static yX8_in, .initialized RX8, .fieldLink RX8 40 "DepotMarchModel" "count" "[I", .fieldLink RX8 53 "DepotMarchModel" "letter" "[I", .fieldLink RX8 56 "DepotMarchModel" "parties" "[I"] ++ (wsX80)
theorem in_m_camp_X8 : ∀ w ∈ u_ws RX8 TX8 48, w ∈ vs_m_camp := fun w h => List.mem_append_right _ (h)
set_option maxRecDepth 20000 in
theorem gg_m_camp_in : GoodIn vs_m_camp vs_in := goodIn_r _ [2] (by decide +kernel) (by decide +kernel)
set_option maxRecDepth 20000 in
theorem g140_m_camp_in : GoodIn vs_m_camp (va_wsS RX8 140 yX8_in vs_in) := goodIn_app (goodIn_of _ (by decide +kernel)) gg_m_camp_in
set_option maxHeartbeats 4000000 in
set_option maxRecDepth 100000 in
theorem c_m_camp (l : Launch) (dC : Nat → ClassId) (dI : Nat → Nat → Nat) (cI cZ cB cJ cP cW : ClassId) (r : Nat → Nat) (k : Int32) (w : Int32) (sz : Nat) : Met l yX8_camp vs_m_camp ({ frames := 6, cells := 0, slots := 0, locals := 360 }) (va_Pc [.ref (r 0), .int k, .int w] (fun U => U.heap.size = sz ∧ EV dC dI cI cZ cB cJ cP cW U ∧ va_P (dC, dI) vwCl [((r 0), .inr (8, [.int 0, .ref (r 1), .int 0, .ref (r 3), .ref (r 4), .ref (r 5), .ref (r 6), .ref (r 7), .ref (r 8), .ref (r 9), .ref (r 10), .ref (r 11), .ref (r 12), .ref (r 13), .ref (r 14), .ref (r 15), .ref (r 16), .ref (r 17), .ref (r 18), .ref (r 19), .ref (r 20), .ref (r 21), .ref (r 22), .ref (r 23), .ref (r 24), .ref (r 25), .ref (r 26), .ref (r 27), .ref (r 28), .ref (r 29), .int 0, .int 0, .int 0, .int 0, .int 0, .int 0, .int (-1), .int 0, .int 0, .int 0, .int 0, .int 0, .int 0, .ref (r 43), .ref (r 44), .ref (r 45), .int 0, .ref (r 47)])), ((r 11), .inl (cI, 110, .inl (fun _ => 0))), ((r 15), .inl (cI, 80, .inl (mk1 16))), ((r 16), .inl (cI, 5, .inl (fun _ => 0)))] U.heap ∧ va_D (fun _ => True) [((r 0), .inr (8, [.int 0, .ref (r 1), .int 0, .ref (r 3), .ref (r 4), .ref (r 5), .ref (r 6), .ref (r 7), .ref (r 8), .ref (r 9), .ref (r 10), .ref (r 11), .ref (r 12), .ref (r 13), .ref (r 14), .ref (r 15), .ref (r 16), .ref (r 17), .ref (r 18), .ref (r 19), .ref (r 20), .ref (r 21), .ref (r 22), .ref (r 23), .ref (r 24), .ref (r 25), .ref (r 26), .ref (r 27), .ref (r 28), .ref (r 29), .int 0, .int 0, .int 0, .int 0, .int 0, .int 0, .int (-1), .int 0, .int 0, .int 0, .int 0, .int 0, .int 0, .ref (r 43), .ref (r 44), .ref (r 45), .int 0, .ref (r 47)])), ((r 11), .inl (cI, 110, .inl (fun _ => 0))), ((r 15), .inl (cI, 80, .inl (mk1 16))), ((r 16), .inl (cI, 5, .inl (fun _ => 0)))])) (va_Qi (fun (r : Int32) (u : Unit) => r = mCamp k w) (fun u t => va_P (dC, dI) vwCl [] t.heap ∧ va_D (va_A [((r 0), .inr (8, [.int 0, .ref (r 1), .int 0, .ref (r 3), .ref (r 4), .ref (r 5), .ref (r 6), .ref (r 7), .ref (r 8), .ref (r 9), .ref (r 10), .ref (r 11), .ref (r 12), .ref (r 13), .ref (r 14), .ref (r 15), .ref (r 16), .ref (r 17), .ref (r 18), .ref (r 19), .ref (r 20), .ref (r 21), .ref (r 22), .ref (r 23), .ref (r 24), .ref (r 25), .ref (r 26), .ref (r 27), .ref (r 28), .ref (r 29), .int 0, .int 0, .int 0, .int 0, .int 0, .int 0, .int (-1), .int 0, .int 0, .int 0, .int 0, .int 0, .int 0, .ref (r 43), .ref (r 44), .ref (r 45), .int 0, .ref (r 47)])), ((r 11), .inl (cI, 110, .inl (fun _ => 0))), ((r 15), .inl (cI, 80, .inl (mk1 16))), ((r 16), .inl (cI, 5, .inl (fun _ => 0)))] sz) []) (va_A [((r 0), .inr (8, [.int 0, .ref (r 1), .int 0, .ref (r 3), .ref (r 4), .ref (r 5), .ref (r 6), .ref (r 7), .ref (r 8), .ref (r 9), .ref (r 10), .ref (r 11), .ref (r 12), .ref (r 13), .ref (r 14), .ref (r 15), .ref (r 16), .ref (r 17), .ref (r 18), .ref (r 19), .ref (r 20), .ref (r 21), .ref (r 22), .ref (r 23), .ref (r 24), .ref (r 25), .ref (r 26), .ref (r 27), .ref (r 28), .ref (r 29), .int 0, .int 0, .int 0, .int 0, .int 0, .int 0, .int (-1), .int 0, .int 0, .int 0, .int 0, .int 0, .int 0, .ref (r 43), .ref (r 44), .ref (r 45), .int 0, .ref (r 47)])), ((r 11), .inl (cI, 110, .inl (fun _ => 0))), ((r 15), .inl (cI, 80, .inl (mk1 16))), ((r 16), .inl (cI, 5, .inl (fun _ => 0)))] sz)) 0 0 (va_A [((r 0), .inr (8, [.int 0, .ref (r 1), .int 0, .ref (r 3), .ref (r 4), .ref (r 5), .ref (r 6), .ref (r 7), .ref (r 8), .ref (r 9), .ref (r 10), .ref (r 11), .ref (r 12), .ref (r 13), .ref (r 14), .ref (r 15), .ref (r 16), .ref (r 17), .ref (r 18), .ref (r 19), .ref (r 20), .ref (r 21), .ref (r 22), .ref (r 23), .ref (r 24), .ref (r 25), .ref (r 26), .ref (r 27), .ref (r 28), .ref (r 29), .int 0, .int 0, .int 0, .int 0, .int 0, .int 0, .int (-1), .int 0, .int 0, .int 0, .int 0, .int 0, .int 0, .ref (r 43), .ref (r 44), .ref (r 45), .int 0, .ref (r 47)])), ((r 11), .inl (cI, 110, .inl (fun _ => 0))), ((r 15), .inl (cI, 80, .inl (mk1 16))), ((r 16), .inl (cI, 5, .inl (fun _ => 0)))] sz) := by
  refine Met.ofW (cc := cX8_camp) (maxL := 5) (ret := (some .int)) (by decide) rfl ?_
  intro p e s m args below meth c s₁ B hml hv
  obtain ⟨rfl, hsz, hE, hP, hD0⟩ := hv
  have hx := B.exec
  have hb := B.bytes
  have hr := B.returns
  have hts := atoms_spec (ws := vs_m_camp) B.pre
  have hown : s.vm.findClass RX8 = some m.cls := findClass_of_methodNamed B.named
  have hlocks := B.notSynchronized
  have hK := hE.2
  subst hsz
  have hD := hD0.self (sz := s.heap.size)
  generalize hAe : va_A [((r 0), .inr (8, [.int 0, .ref (r 1), .int 0, .ref (r 3), .ref (r 4), .ref (r 5), .ref (r 6), .ref (r 7), .ref (r 8), .ref (r 9), .ref (r 10), .ref (r 11), .ref (r 12), .ref (r 13), .ref (r 14), .ref (r 15), .ref (r 16), .ref (r 17), .ref (r 18), .ref (r 19), .ref (r 20), .ref (r 21), .ref (r 22), .ref (r 23), .ref (r 24), .ref (r 25), .ref (r 26), .ref (r 27), .ref (r 28), .ref (r 29), .int 0, .int 0, .int 0, .int 0, .int 0, .int 0, .int (-1), .int 0, .int 0, .int 0, .int 0, .int 0, .int 0, .ref (r 43), .ref (r 44), .ref (r 45), .int 0, .ref (r 47)])), ((r 11), .inl (cI, 110, .inl (fun _ => 0))), ((r 15), .inl (cI, 80, .inl (mk1 16))), ((r 16), .inl (cI, 5, .inl (fun _ => 0)))] s.heap.size = A at hD ⊢
  have hA : ∀ q : Nat, s.heap.size ≤ q → A q := fun q h => by rw [← hAe]; exact Or.inr h
  have hS : va_S A s.heap s.heap [] := va_S.rf
  have hl := lv_entry ([.ref (r 0), .int k, .int w]) (n := 5) (Nat.le_of_ble_eq_true rfl)
  rw [lg_entry_eq]
  generalize (lg_sl ([.ref (r 0), .int k, .int w]) ++ List.replicate (5 - (lg_sl ([.ref (r 0), .int k, .int w])).length) Slot.unset).toArray = ls at hl ⊢
  have hl : lv_has ls 5 [(0, .ref (r 0)), (1, .int k), (2, .int w)] := hl
  refine lv_aload_n hx hb dX8_camp_0 rfl (lv_at hl 0 rfl) ?_
  refine lv_iconst (v := 0) hx hb dX8_camp_1 (by decide) ?_
  refine va_put (D := (dC, dI)) (ci := 8) (v := .int 0) (ty := .int) (C := RX8) (T := TX8) (N := 48) hx hb hts in_m_camp_X8 tyX8 tyX8_ok nmX8 hown hK hP hD hS 0 rfl rfl 0 (by decide) (hts (.fieldLink RX8 126 "DepotMarchModel" "code" "I") (by decide +kernel)) (fun _ h9 => h9) rfl (by decide +kernel) rfl rfl (Nat.le_of_ble_eq_true rfl) dX8_camp_2 (fun H1 locs hP hD hS => ?_)
  have hP : va_P (dC, dI) vwCl [((r 0), .inr (8, [.int 0, .ref (r 1), .int 0, .ref (r 3), .ref (r 4), .ref (r 5), .ref (r 6), .ref (r 7), .ref (r 8), .ref (r 9), .ref (r 10), .ref (r 11), .ref (r 12), .ref (r 13), .ref (r 14), .ref (r 15), .ref (r 16), .ref (r 17), .ref (r 18), .ref (r 19), .ref (r 20), .ref (r 21), .ref (r 22), .ref (r 23), .ref (r 24), .ref (r 25), .ref (r 26), .ref (r 27), .ref (r 28), .ref (r 29), .int 0, .int 0, .int 0, .int 0, .int 0, .int 0, .int (-1), .int 0, .int 0, .int 0, .int 0, .int 0, .int 0, .ref (r 43), .ref (r 44), .ref (r 45), .int 0, .ref (r 47)])), ((r 11), .inl (cI, 110, .inl (fun _ => 0))), ((r 15), .inl (cI, 80, .inl (mk1 16))), ((r 16), .inl (cI, 5, .inl (fun _ => 0)))] H1 := hP
  have hD : va_D A [((r 0), .inr (8, [.int 0, .ref (r 1), .int 0, .ref (r 3), .ref (r 4), .ref (r 5), .ref (r 6), .ref (r 7), .ref (r 8), .ref (r 9), .ref (r 10), .ref (r 11), .ref (r 12), .ref (r 13), .ref (r 14), .ref (r 15), .ref (r 16), .ref (r 17), .ref (r 18), .ref (r 19), .ref (r 20), .ref (r 21), .ref (r 22), .ref (r 23), .ref (r 24), .ref (r 25), .ref (r 26), .ref (r 27), .ref (r 28), .ref (r 29), .int 0, .int 0, .int 0, .int 0, .int 0, .int 0, .int (-1), .int 0, .int 0, .int 0, .int 0, .int 0, .int 0, .ref (r 43), .ref (r 44), .ref (r 45), .int 0, .ref (r 47)])), ((r 11), .inl (cI, 110, .inl (fun _ => 0))), ((r 15), .inl (cI, 80, .inl (mk1 16))), ((r 16), .inl (cI, 5, .inl (fun _ => 0)))] := hD
  refine lv_iload_n hx hb dX8_camp_5 rfl (lv_at hl 1 rfl) ?_
  refine lv_iconst (v := 0) hx hb dX8_camp_6 (by decide) ?_
  refine lv_bipush (v := 15) hx hb dX8_camp_7 (by decide) ?_
  refine vp_callSi (va_Run.run (va_runS (As := [.int k, .int 0, .int 15]) (rest := []) ⟨hx, hb, hml, hown, hts⟩ (c_in l dC dI cI cZ cB cJ cP cW k 0 15) (va_cwS 3 hts g140_m_camp_in rfl rfl rfl (by decide +kernel) ⟨Nat.le_of_ble_eq_true rfl, Nat.le_of_ble_eq_true rfl⟩) ⟨fbR, fun U hU hW => ⟨rfl, hE.warm hW, by rw [hU]; exact (fun k q h => by simp at h)⟩⟩ rfl rfl hl.1 rfl (lv_room (Nat.le_of_ble_eq_true rfl)) dX8_camp_9 ⟨Nat.le_of_ble_eq_true rfl, Nat.le_of_ble_eq_true rfl⟩)) (fun r2 hr2 => ?_)
  obtain rfl : r2 = (inn k 0 15) := hr2
  refine lv_if_ne (tgt := 17) hx hb dX8_camp_12 (by decide) (fun c3 => ?_) (fun c3 => ?_)
  · refine lv_iload_n hx hb dX8_camp_17 rfl (lv_at hl 2 rfl) ?_
    by_cases hsw : w.toInt < 0 ∨ 3 < w.toInt
    · refine lv_tableOut (tgt := 141) hx hb dX8_camp_18 hsw (by decide) ?_
      refine lv_iconst (v := (-1)) hx hb dX8_camp_141 (by decide) ?_
      have hP9 := hP.sub (ws' := []) [] rfl
      have hD9 := hD.sub (ws' := []) [] (by decide) rfl
      refine W.widen (k := 0) (n := 0) (by decide) (by decide) ?_
      exact W.iret (v := (-1)) hx hb hr (fun t ht hW => ⟨⟨(-1), (), rfl, (by rw [mCamp, if_neg c3, if_neg (n_out3 hsw).1, if_neg (n_out3 hsw).2]), by rw [ht]; exact hP9, hD9⟩, hS.F ht⟩) hS.2.2 dX8_camp_142
    · have hsx : w = 0 ∨ w = 1 ∨ w = 2 ∨ w = 3 := n_cases0_3 hsw
      rcases hsx with rfl | rfl | rfl | rfl
      · refine lv_tableIn (tgt := 48) hx hb dX8_camp_18 (by decide) (by decide) rfl (by decide) ?_
        refine lv_aload_n hx hb dX8_camp_48 rfl (lv_at hl 0 rfl) ?_
        refine va_get (D := (dC, dI)) (ci := 8) (v := .ref (r 11)) (C := RX8) (T := TX8) (N := 48) hx hb hts in_m_camp_X8 hown hK hP 0 rfl rfl 11 (by decide) (hts (.fieldLink RX8 40 "DepotMarchModel" "count" "[I") (by decide +kernel)) (fun _ h9 => h9) rfl dX8_camp_49 ?_
        refine lv_iload_n hx hb dX8_camp_52 rfl (lv_at hl 1 rfl) ?_
        refine va_iald hx hb hK hP 1 0 rfl rfl (inn_in (a := 0) (b := 15) (N := 110) rfl rfl (by decide) c3) dX8_camp_53 ?_
        refine lv_topi (fun x4 ex4 => ?_)
        obtain rfl : x4 = 0 := ex4.trans rfl
        have hP9 := hP.sub (ws' := []) [] rfl
        have hD9 := hD.sub (ws' := []) [] (by decide) rfl
        refine W.widen (k := 0) (n := 0) (by decide) (by decide) ?_
        exact W.iret (v := 0) hx hb hr (fun t ht hW => ⟨⟨0, (), rfl, (by rw [mCamp, if_neg c3]; decide), by rw [ht]; exact hP9, hD9⟩, hS.F ht⟩) hS.2.2 dX8_camp_54
      · refine lv_tableIn (tgt := 55) hx hb dX8_camp_18 (by decide) (by decide) rfl (by decide) ?_
        refine lv_aload_n hx hb dX8_camp_55 rfl (lv_at hl 0 rfl) ?_
        refine va_get (D := (dC, dI)) (ci := 8) (v := .ref (r 15)) (C := RX8) (T := TX8) (N := 48) hx hb hts in_m_camp_X8 hown hK hP 0 rfl rfl 15 (by decide) (hts (.fieldLink RX8 53 "DepotMarchModel" "letter" "[I") (by decide +kernel)) (fun _ h9 => h9) rfl dX8_camp_56 ?_
        refine lv_iload_n hx hb dX8_camp_59 rfl (lv_at hl 1 rfl) ?_
        refine va_iald hx hb hK hP 2 0 rfl rfl (inn_in (a := 0) (b := 15) (N := 80) rfl rfl (by decide) c3) dX8_camp_60 ?_
        refine lv_topi (fun x5 ex5 => ?_)
        obtain rfl : x5 = (-1) := ex5.trans (mk1_in (N := 16) (inn_in (a := 0) (b := 15) (N := 16) rfl rfl (by decide) c3))
        have hP9 := hP.sub (ws' := []) [] rfl
        have hD9 := hD.sub (ws' := []) [] (by decide) rfl
        refine W.widen (k := 0) (n := 0) (by decide) (by decide) ?_
        exact W.iret (v := (-1)) hx hb hr (fun t ht hW => ⟨⟨(-1), (), rfl, (by rw [mCamp, if_neg c3]; decide), by rw [ht]; exact hP9, hD9⟩, hS.F ht⟩) hS.2.2 dX8_camp_61
      · refine lv_tableIn (tgt := 62) hx hb dX8_camp_18 (by decide) (by decide) rfl (by decide) ?_
        refine lv_iconst (v := 0) hx hb dX8_camp_62 (by decide) ?_
        refine lv_istore_n (lv' := [(3, .int 0), (0, .ref (r 0)), (1, .int k), (2, .int 2)]) hx hb dX8_camp_63 rfl hl (by decide) rfl (fun ls hl => ?_)
        refine lv_iconst (v := 0) hx hb dX8_camp_64 (by decide) ?_
        refine lv_istore (lv' := [(4, .int 0), (3, .int 0), (0, .ref (r 0)), (1, .int k), (2, .int 2)]) hx hb dX8_camp_65 hl (by decide) rfl (fun ls hl => ?_)
        refine lv_iload hx hb dX8_camp_67 (lv_at hl 0 rfl) ?_
        refine lv_aload_n hx hb dX8_camp_69 rfl (lv_at hl 2 rfl) ?_
        refine va_get (D := (dC, dI)) (ci := 8) (v := .ref (r 16)) (C := RX8) (T := TX8) (N := 48) hx hb hts in_m_camp_X8 hown hK hP 0 rfl rfl 16 (by decide) (hts (.fieldLink RX8 56 "DepotMarchModel" "parties" "[I") (by decide +kernel)) (fun _ h9 => h9) rfl dX8_camp_70 ?_
        refine lv_iconst (v := 0) hx hb dX8_camp_73 (by decide) ?_
        refine va_iald hx hb hK hP 3 0 rfl rfl (vpd rfl) dX8_camp_74 ?_
        refine lv_topi (fun x6 ex6 => ?_)
        obtain rfl : x6 = 0 := ex6.trans rfl
        refine lv_icmp_ge (tgt := 114) hx hb dX8_camp_75 (by decide) (fun _ => ?_) (fun c9 => absurd (by decide) c9)
        refine lv_iload_n hx hb dX8_camp_114 rfl (lv_at hl 1 rfl) ?_
        have hP9 := hP.sub (ws' := []) [] rfl
        have hD9 := hD.sub (ws' := []) [] (by decide) rfl
        refine W.widen (k := 0) (n := 0) (by decide) (by decide) ?_
        exact W.iret (v := 0) hx hb hr (fun t ht hW => ⟨⟨0, (), rfl, (by rw [mCamp, if_neg c3]; decide), by rw [ht]; exact hP9, hD9⟩, hS.F ht⟩) hS.2.2 dX8_camp_115
      · refine lv_tableIn (tgt := 116) hx hb dX8_camp_18 (by decide) (by decide) rfl (by decide) ?_
        refine lv_aload_n hx hb dX8_camp_116 rfl (lv_at hl 0 rfl) ?_
        refine va_get (D := (dC, dI)) (ci := 8) (v := .ref (r 11)) (C := RX8) (T := TX8) (N := 48) hx hb hts in_m_camp_X8 hown hK hP 0 rfl rfl 11 (by decide) (hts (.fieldLink RX8 40 "DepotMarchModel" "count" "[I") (by decide +kernel)) (fun _ h9 => h9) rfl dX8_camp_117 ?_
        refine lv_iload_n hx hb dX8_camp_120 rfl (lv_at hl 1 rfl) ?_
        refine va_iald hx hb hK hP 1 0 rfl rfl (inn_in (a := 0) (b := 15) (N := 110) rfl rfl (by decide) c3) dX8_camp_121 ?_
        refine lv_topi (fun x8 ex8 => ?_)
        obtain rfl : x8 = 0 := ex8.trans rfl
        refine lv_if_ne (tgt := 129) hx hb dX8_camp_122 (by decide) (fun c9 => absurd (by decide) c9) (fun _ => ?_)
        refine lv_iconst (v := (-1)) hx hb dX8_camp_125 (by decide) ?_
        refine lv_goto (tgt := 140) hx hb dX8_camp_126 (by decide) ?_
        have hP9 := hP.sub (ws' := []) [] rfl
        have hD9 := hD.sub (ws' := []) [] (by decide) rfl
        refine W.widen (k := 0) (n := 0) (by decide) (by decide) ?_
        exact W.iret (v := (-1)) hx hb hr (fun t ht hW => ⟨⟨(-1), (), rfl, (by rw [mCamp, if_neg c3]; decide), by rw [ht]; exact hP9, hD9⟩, hS.F ht⟩) hS.2.2 dX8_camp_140
  · refine lv_iconst (v := (-1)) hx hb dX8_camp_15 (by decide) ?_
    have hP9 := hP.sub (ws' := []) [] rfl
    have hD9 := hD.sub (ws' := []) [] (by decide) rfl
    refine W.widen (k := 0) (n := 0) (by decide) (by decide) ?_
    exact W.iret (v := (-1)) hx hb hr (fun t ht hW => ⟨⟨(-1), (), rfl, (by simp [mCamp, c3]), by rw [ht]; exact hP9, hD9⟩, hS.F ht⟩) hS.2.2 dX8_camp_16

def vs_m_lot : List Cond := [.code yX8_lot cX8_lot 5 (some .int), .fieldLink RX8 126 "DepotMarchModel" "code" "I", .fieldLink RX8 28 "DepotMarchModel" "lots" "[I", .code yX8_in cX8_in 3 (some .boolean), .methodLink RX8 140 yX8_in, .static yX8_in, .initialized RX8] ++ (wsX80)
theorem in_m_lot_X8 : ∀ w ∈ u_ws RX8 TX8 48, w ∈ vs_m_lot := fun w h => List.mem_append_right _ (h)
set_option maxRecDepth 20000 in
theorem gg_m_lot_in : GoodIn vs_m_lot vs_in := goodIn_r _ [3] (by decide +kernel) (by decide +kernel)
set_option maxRecDepth 20000 in
theorem g140_m_lot_in : GoodIn vs_m_lot (va_wsS RX8 140 yX8_in vs_in) := goodIn_app (goodIn_of _ (by decide +kernel)) gg_m_lot_in
set_option maxHeartbeats 4000000 in
set_option maxRecDepth 100000 in
theorem c_m_lot (l : Launch) (dC : Nat → ClassId) (dI : Nat → Nat → Nat) (cI cZ cB cJ cP cW : ClassId) (r : Nat → Nat) (k : Int32) (w : Int32) (sz : Nat) : Met l yX8_lot vs_m_lot ({ frames := 6, cells := 0, slots := 0, locals := 360 }) (va_Pc [.ref (r 0), .int k, .int w] (fun U => U.heap.size = sz ∧ EV dC dI cI cZ cB cJ cP cW U ∧ va_P (dC, dI) vwCl [((r 0), .inr (8, [.int 0, .ref (r 1), .int 0, .ref (r 3), .ref (r 4), .ref (r 5), .ref (r 6), .ref (r 7), .ref (r 8), .ref (r 9), .ref (r 10), .ref (r 11), .ref (r 12), .ref (r 13), .ref (r 14), .ref (r 15), .ref (r 16), .ref (r 17), .ref (r 18), .ref (r 19), .ref (r 20), .ref (r 21), .ref (r 22), .ref (r 23), .ref (r 24), .ref (r 25), .ref (r 26), .ref (r 27), .ref (r 28), .ref (r 29), .int 0, .int 0, .int 0, .int 0, .int 0, .int 0, .int (-1), .int 0, .int 0, .int 0, .int 0, .int 0, .int 0, .ref (r 43), .ref (r 44), .ref (r 45), .int 0, .ref (r 47)])), ((r 7), .inl (cI, 5, .inl (fun _ => 0)))] U.heap ∧ va_D (fun _ => True) [((r 0), .inr (8, [.int 0, .ref (r 1), .int 0, .ref (r 3), .ref (r 4), .ref (r 5), .ref (r 6), .ref (r 7), .ref (r 8), .ref (r 9), .ref (r 10), .ref (r 11), .ref (r 12), .ref (r 13), .ref (r 14), .ref (r 15), .ref (r 16), .ref (r 17), .ref (r 18), .ref (r 19), .ref (r 20), .ref (r 21), .ref (r 22), .ref (r 23), .ref (r 24), .ref (r 25), .ref (r 26), .ref (r 27), .ref (r 28), .ref (r 29), .int 0, .int 0, .int 0, .int 0, .int 0, .int 0, .int (-1), .int 0, .int 0, .int 0, .int 0, .int 0, .int 0, .ref (r 43), .ref (r 44), .ref (r 45), .int 0, .ref (r 47)])), ((r 7), .inl (cI, 5, .inl (fun _ => 0)))])) (va_Qi (fun (r : Int32) (u : Unit) => r = -1) (fun u t => va_P (dC, dI) vwCl [] t.heap ∧ va_D (va_A [((r 0), .inr (8, [.int 0, .ref (r 1), .int 0, .ref (r 3), .ref (r 4), .ref (r 5), .ref (r 6), .ref (r 7), .ref (r 8), .ref (r 9), .ref (r 10), .ref (r 11), .ref (r 12), .ref (r 13), .ref (r 14), .ref (r 15), .ref (r 16), .ref (r 17), .ref (r 18), .ref (r 19), .ref (r 20), .ref (r 21), .ref (r 22), .ref (r 23), .ref (r 24), .ref (r 25), .ref (r 26), .ref (r 27), .ref (r 28), .ref (r 29), .int 0, .int 0, .int 0, .int 0, .int 0, .int 0, .int (-1), .int 0, .int 0, .int 0, .int 0, .int 0, .int 0, .ref (r 43), .ref (r 44), .ref (r 45), .int 0, .ref (r 47)])), ((r 7), .inl (cI, 5, .inl (fun _ => 0)))] sz) []) (va_A [((r 0), .inr (8, [.int 0, .ref (r 1), .int 0, .ref (r 3), .ref (r 4), .ref (r 5), .ref (r 6), .ref (r 7), .ref (r 8), .ref (r 9), .ref (r 10), .ref (r 11), .ref (r 12), .ref (r 13), .ref (r 14), .ref (r 15), .ref (r 16), .ref (r 17), .ref (r 18), .ref (r 19), .ref (r 20), .ref (r 21), .ref (r 22), .ref (r 23), .ref (r 24), .ref (r 25), .ref (r 26), .ref (r 27), .ref (r 28), .ref (r 29), .int 0, .int 0, .int 0, .int 0, .int 0, .int 0, .int (-1), .int 0, .int 0, .int 0, .int 0, .int 0, .int 0, .ref (r 43), .ref (r 44), .ref (r 45), .int 0, .ref (r 47)])), ((r 7), .inl (cI, 5, .inl (fun _ => 0)))] sz)) 0 0 (va_A [((r 0), .inr (8, [.int 0, .ref (r 1), .int 0, .ref (r 3), .ref (r 4), .ref (r 5), .ref (r 6), .ref (r 7), .ref (r 8), .ref (r 9), .ref (r 10), .ref (r 11), .ref (r 12), .ref (r 13), .ref (r 14), .ref (r 15), .ref (r 16), .ref (r 17), .ref (r 18), .ref (r 19), .ref (r 20), .ref (r 21), .ref (r 22), .ref (r 23), .ref (r 24), .ref (r 25), .ref (r 26), .ref (r 27), .ref (r 28), .ref (r 29), .int 0, .int 0, .int 0, .int 0, .int 0, .int 0, .int (-1), .int 0, .int 0, .int 0, .int 0, .int 0, .int 0, .ref (r 43), .ref (r 44), .ref (r 45), .int 0, .ref (r 47)])), ((r 7), .inl (cI, 5, .inl (fun _ => 0)))] sz) := by
  refine Met.ofW (cc := cX8_lot) (maxL := 5) (ret := (some .int)) (by decide) rfl ?_
  intro p e s m args below meth c s₁ B hml hv
  obtain ⟨rfl, hsz, hE, hP, hD0⟩ := hv
  have hx := B.exec
  have hb := B.bytes
  have hr := B.returns
  have hts := atoms_spec (ws := vs_m_lot) B.pre
  have hown : s.vm.findClass RX8 = some m.cls := findClass_of_methodNamed B.named
  have hlocks := B.notSynchronized
  have hK := hE.2
  subst hsz
  have hD := hD0.self (sz := s.heap.size)
  generalize hAe : va_A [((r 0), .inr (8, [.int 0, .ref (r 1), .int 0, .ref (r 3), .ref (r 4), .ref (r 5), .ref (r 6), .ref (r 7), .ref (r 8), .ref (r 9), .ref (r 10), .ref (r 11), .ref (r 12), .ref (r 13), .ref (r 14), .ref (r 15), .ref (r 16), .ref (r 17), .ref (r 18), .ref (r 19), .ref (r 20), .ref (r 21), .ref (r 22), .ref (r 23), .ref (r 24), .ref (r 25), .ref (r 26), .ref (r 27), .ref (r 28), .ref (r 29), .int 0, .int 0, .int 0, .int 0, .int 0, .int 0, .int (-1), .int 0, .int 0, .int 0, .int 0, .int 0, .int 0, .ref (r 43), .ref (r 44), .ref (r 45), .int 0, .ref (r 47)])), ((r 7), .inl (cI, 5, .inl (fun _ => 0)))] s.heap.size = A at hD ⊢
  have hA : ∀ q : Nat, s.heap.size ≤ q → A q := fun q h => by rw [← hAe]; exact Or.inr h
  have hS : va_S A s.heap s.heap [] := va_S.rf
  have hl := lv_entry ([.ref (r 0), .int k, .int w]) (n := 5) (Nat.le_of_ble_eq_true rfl)
  rw [lg_entry_eq]
  generalize (lg_sl ([.ref (r 0), .int k, .int w]) ++ List.replicate (5 - (lg_sl ([.ref (r 0), .int k, .int w])).length) Slot.unset).toArray = ls at hl ⊢
  have hl : lv_has ls 5 [(0, .ref (r 0)), (1, .int k), (2, .int w)] := hl
  refine lv_aload_n hx hb dX8_lot_0 rfl (lv_at hl 0 rfl) ?_
  refine lv_iconst (v := 0) hx hb dX8_lot_1 (by decide) ?_
  refine va_put (D := (dC, dI)) (ci := 8) (v := .int 0) (ty := .int) (C := RX8) (T := TX8) (N := 48) hx hb hts in_m_lot_X8 tyX8 tyX8_ok nmX8 hown hK hP hD hS 0 rfl rfl 0 (by decide) (hts (.fieldLink RX8 126 "DepotMarchModel" "code" "I") (by decide +kernel)) (fun _ h9 => h9) rfl (by decide +kernel) rfl rfl (Nat.le_of_ble_eq_true rfl) dX8_lot_2 (fun H1 locs hP hD hS => ?_)
  have hP : va_P (dC, dI) vwCl [((r 0), .inr (8, [.int 0, .ref (r 1), .int 0, .ref (r 3), .ref (r 4), .ref (r 5), .ref (r 6), .ref (r 7), .ref (r 8), .ref (r 9), .ref (r 10), .ref (r 11), .ref (r 12), .ref (r 13), .ref (r 14), .ref (r 15), .ref (r 16), .ref (r 17), .ref (r 18), .ref (r 19), .ref (r 20), .ref (r 21), .ref (r 22), .ref (r 23), .ref (r 24), .ref (r 25), .ref (r 26), .ref (r 27), .ref (r 28), .ref (r 29), .int 0, .int 0, .int 0, .int 0, .int 0, .int 0, .int (-1), .int 0, .int 0, .int 0, .int 0, .int 0, .int 0, .ref (r 43), .ref (r 44), .ref (r 45), .int 0, .ref (r 47)])), ((r 7), .inl (cI, 5, .inl (fun _ => 0)))] H1 := hP
  have hD : va_D A [((r 0), .inr (8, [.int 0, .ref (r 1), .int 0, .ref (r 3), .ref (r 4), .ref (r 5), .ref (r 6), .ref (r 7), .ref (r 8), .ref (r 9), .ref (r 10), .ref (r 11), .ref (r 12), .ref (r 13), .ref (r 14), .ref (r 15), .ref (r 16), .ref (r 17), .ref (r 18), .ref (r 19), .ref (r 20), .ref (r 21), .ref (r 22), .ref (r 23), .ref (r 24), .ref (r 25), .ref (r 26), .ref (r 27), .ref (r 28), .ref (r 29), .int 0, .int 0, .int 0, .int 0, .int 0, .int 0, .int (-1), .int 0, .int 0, .int 0, .int 0, .int 0, .int 0, .ref (r 43), .ref (r 44), .ref (r 45), .int 0, .ref (r 47)])), ((r 7), .inl (cI, 5, .inl (fun _ => 0)))] := hD
  refine lv_iload_n hx hb dX8_lot_5 rfl (lv_at hl 1 rfl) ?_
  refine lv_iconst (v := 0) hx hb dX8_lot_6 (by decide) ?_
  refine lv_aload_n hx hb dX8_lot_7 rfl (lv_at hl 0 rfl) ?_
  refine va_get (D := (dC, dI)) (ci := 8) (v := .ref (r 7)) (C := RX8) (T := TX8) (N := 48) hx hb hts in_m_lot_X8 hown hK hP 0 rfl rfl 7 (by decide) (hts (.fieldLink RX8 28 "DepotMarchModel" "lots" "[I") (by decide +kernel)) (fun _ h9 => h9) rfl dX8_lot_8 ?_
  refine lv_iconst (v := 0) hx hb dX8_lot_11 (by decide) ?_
  refine va_iald hx hb hK hP 1 0 rfl rfl (vpd rfl) dX8_lot_12 ?_
  refine lv_topi (fun x2 ex2 => ?_)
  obtain rfl : x2 = 0 := ex2.trans rfl
  refine lv_iconst (v := 1) hx hb dX8_lot_13 (by decide) ?_
  refine lv_isub hx hb dX8_lot_14 ?_
  refine lv_topi (fun x3 ex3 => ?_)
  obtain rfl : x3 = (-1) := ex3.trans (by decide)
  refine vp_callSi (va_Run.run (va_runS (As := [.int k, .int 0, .int (-1)]) (rest := []) ⟨hx, hb, hml, hown, hts⟩ (c_in l dC dI cI cZ cB cJ cP cW k 0 (-1)) (va_cwS 3 hts g140_m_lot_in rfl rfl rfl (by decide +kernel) ⟨Nat.le_of_ble_eq_true rfl, Nat.le_of_ble_eq_true rfl⟩) ⟨fbR, fun U hU hW => ⟨rfl, hE.warm hW, by rw [hU]; exact (fun k q h => by simp at h)⟩⟩ rfl rfl hl.1 rfl (lv_room (Nat.le_of_ble_eq_true rfl)) dX8_lot_15 ⟨Nat.le_of_ble_eq_true rfl, Nat.le_of_ble_eq_true rfl⟩)) (fun r4 hr4 => ?_)
  obtain rfl : r4 = 0 := hr4.trans (inn_m _)
  refine lv_if_ne (tgt := 23) hx hb dX8_lot_18 (by decide) (fun c9 => absurd (by decide) c9) (fun _ => ?_)
  refine lv_iconst (v := (-1)) hx hb dX8_lot_21 (by decide) ?_
  have hP9 := hP.sub (ws' := []) [] rfl
  have hD9 := hD.sub (ws' := []) [] (by decide) rfl
  refine W.widen (k := 0) (n := 0) (by decide) (by decide) ?_
  exact W.iret (v := (-1)) hx hb hr (fun t ht hW => ⟨⟨(-1), (), rfl, rfl, by rw [ht]; exact hP9, hD9⟩, hS.F ht⟩) hS.2.2 dX8_lot_22

def vs_m_line : List Cond := [.code yX8_line cX8_line 3 (some .int), .fieldLink RX8 126 "DepotMarchModel" "code" "I", .code yX8_in cX8_in 3 (some .boolean), .methodLink RX8 140 yX8_in, .static yX8_in, .initialized RX8, .fieldLink RX8 92 "DepotMarchModel" "lines" "[I"] ++ (wsX80)
theorem in_m_line_X8 : ∀ w ∈ u_ws RX8 TX8 48, w ∈ vs_m_line := fun w h => List.mem_append_right _ (h)
set_option maxRecDepth 20000 in
theorem gg_m_line_in : GoodIn vs_m_line vs_in := goodIn_r _ [2] (by decide +kernel) (by decide +kernel)
set_option maxRecDepth 20000 in
theorem g140_m_line_in : GoodIn vs_m_line (va_wsS RX8 140 yX8_in vs_in) := goodIn_app (goodIn_of _ (by decide +kernel)) gg_m_line_in
set_option maxHeartbeats 4000000 in
set_option maxRecDepth 100000 in
theorem c_m_line (l : Launch) (dC : Nat → ClassId) (dI : Nat → Nat → Nat) (cI cZ cB cJ cP cW : ClassId) (r : Nat → Nat) (k : Int32) (w : Int32) (sz : Nat) : Met l yX8_line vs_m_line ({ frames := 6, cells := 0, slots := 0, locals := 360 }) (va_Pc [.ref (r 0), .int k, .int w] (fun U => U.heap.size = sz ∧ EV dC dI cI cZ cB cJ cP cW U ∧ va_P (dC, dI) vwCl [((r 0), .inr (8, [.int 0, .ref (r 1), .int 0, .ref (r 3), .ref (r 4), .ref (r 5), .ref (r 6), .ref (r 7), .ref (r 8), .ref (r 9), .ref (r 10), .ref (r 11), .ref (r 12), .ref (r 13), .ref (r 14), .ref (r 15), .ref (r 16), .ref (r 17), .ref (r 18), .ref (r 19), .ref (r 20), .ref (r 21), .ref (r 22), .ref (r 23), .ref (r 24), .ref (r 25), .ref (r 26), .ref (r 27), .ref (r 28), .ref (r 29), .int 0, .int 0, .int 0, .int 0, .int 0, .int 0, .int (-1), .int 0, .int 0, .int 0, .int 0, .int 0, .int 0, .ref (r 43), .ref (r 44), .ref (r 45), .int 0, .ref (r 47)])), ((r 28), .inl (cI, 5, .inl (fun _ => 0)))] U.heap ∧ va_D (fun _ => True) [((r 0), .inr (8, [.int 0, .ref (r 1), .int 0, .ref (r 3), .ref (r 4), .ref (r 5), .ref (r 6), .ref (r 7), .ref (r 8), .ref (r 9), .ref (r 10), .ref (r 11), .ref (r 12), .ref (r 13), .ref (r 14), .ref (r 15), .ref (r 16), .ref (r 17), .ref (r 18), .ref (r 19), .ref (r 20), .ref (r 21), .ref (r 22), .ref (r 23), .ref (r 24), .ref (r 25), .ref (r 26), .ref (r 27), .ref (r 28), .ref (r 29), .int 0, .int 0, .int 0, .int 0, .int 0, .int 0, .int (-1), .int 0, .int 0, .int 0, .int 0, .int 0, .int 0, .ref (r 43), .ref (r 44), .ref (r 45), .int 0, .ref (r 47)])), ((r 28), .inl (cI, 5, .inl (fun _ => 0)))])) (va_Qi (fun (r : Int32) (u : Unit) => r = -1) (fun u t => va_P (dC, dI) vwCl [] t.heap ∧ va_D (va_A [((r 0), .inr (8, [.int 0, .ref (r 1), .int 0, .ref (r 3), .ref (r 4), .ref (r 5), .ref (r 6), .ref (r 7), .ref (r 8), .ref (r 9), .ref (r 10), .ref (r 11), .ref (r 12), .ref (r 13), .ref (r 14), .ref (r 15), .ref (r 16), .ref (r 17), .ref (r 18), .ref (r 19), .ref (r 20), .ref (r 21), .ref (r 22), .ref (r 23), .ref (r 24), .ref (r 25), .ref (r 26), .ref (r 27), .ref (r 28), .ref (r 29), .int 0, .int 0, .int 0, .int 0, .int 0, .int 0, .int (-1), .int 0, .int 0, .int 0, .int 0, .int 0, .int 0, .ref (r 43), .ref (r 44), .ref (r 45), .int 0, .ref (r 47)])), ((r 28), .inl (cI, 5, .inl (fun _ => 0)))] sz) []) (va_A [((r 0), .inr (8, [.int 0, .ref (r 1), .int 0, .ref (r 3), .ref (r 4), .ref (r 5), .ref (r 6), .ref (r 7), .ref (r 8), .ref (r 9), .ref (r 10), .ref (r 11), .ref (r 12), .ref (r 13), .ref (r 14), .ref (r 15), .ref (r 16), .ref (r 17), .ref (r 18), .ref (r 19), .ref (r 20), .ref (r 21), .ref (r 22), .ref (r 23), .ref (r 24), .ref (r 25), .ref (r 26), .ref (r 27), .ref (r 28), .ref (r 29), .int 0, .int 0, .int 0, .int 0, .int 0, .int 0, .int (-1), .int 0, .int 0, .int 0, .int 0, .int 0, .int 0, .ref (r 43), .ref (r 44), .ref (r 45), .int 0, .ref (r 47)])), ((r 28), .inl (cI, 5, .inl (fun _ => 0)))] sz)) 0 0 (va_A [((r 0), .inr (8, [.int 0, .ref (r 1), .int 0, .ref (r 3), .ref (r 4), .ref (r 5), .ref (r 6), .ref (r 7), .ref (r 8), .ref (r 9), .ref (r 10), .ref (r 11), .ref (r 12), .ref (r 13), .ref (r 14), .ref (r 15), .ref (r 16), .ref (r 17), .ref (r 18), .ref (r 19), .ref (r 20), .ref (r 21), .ref (r 22), .ref (r 23), .ref (r 24), .ref (r 25), .ref (r 26), .ref (r 27), .ref (r 28), .ref (r 29), .int 0, .int 0, .int 0, .int 0, .int 0, .int 0, .int (-1), .int 0, .int 0, .int 0, .int 0, .int 0, .int 0, .ref (r 43), .ref (r 44), .ref (r 45), .int 0, .ref (r 47)])), ((r 28), .inl (cI, 5, .inl (fun _ => 0)))] sz) := by
  refine Met.ofW (cc := cX8_line) (maxL := 3) (ret := (some .int)) (by decide) rfl ?_
  intro p e s m args below meth c s₁ B hml hv
  obtain ⟨rfl, hsz, hE, hP, hD0⟩ := hv
  have hx := B.exec
  have hb := B.bytes
  have hr := B.returns
  have hts := atoms_spec (ws := vs_m_line) B.pre
  have hown : s.vm.findClass RX8 = some m.cls := findClass_of_methodNamed B.named
  have hlocks := B.notSynchronized
  have hK := hE.2
  subst hsz
  have hD := hD0.self (sz := s.heap.size)
  generalize hAe : va_A [((r 0), .inr (8, [.int 0, .ref (r 1), .int 0, .ref (r 3), .ref (r 4), .ref (r 5), .ref (r 6), .ref (r 7), .ref (r 8), .ref (r 9), .ref (r 10), .ref (r 11), .ref (r 12), .ref (r 13), .ref (r 14), .ref (r 15), .ref (r 16), .ref (r 17), .ref (r 18), .ref (r 19), .ref (r 20), .ref (r 21), .ref (r 22), .ref (r 23), .ref (r 24), .ref (r 25), .ref (r 26), .ref (r 27), .ref (r 28), .ref (r 29), .int 0, .int 0, .int 0, .int 0, .int 0, .int 0, .int (-1), .int 0, .int 0, .int 0, .int 0, .int 0, .int 0, .ref (r 43), .ref (r 44), .ref (r 45), .int 0, .ref (r 47)])), ((r 28), .inl (cI, 5, .inl (fun _ => 0)))] s.heap.size = A at hD ⊢
  have hA : ∀ q : Nat, s.heap.size ≤ q → A q := fun q h => by rw [← hAe]; exact Or.inr h
  have hS : va_S A s.heap s.heap [] := va_S.rf
  have hl := lv_entry ([.ref (r 0), .int k, .int w]) (n := 3) (Nat.le_of_ble_eq_true rfl)
  rw [lg_entry_eq]
  generalize (lg_sl ([.ref (r 0), .int k, .int w]) ++ List.replicate (3 - (lg_sl ([.ref (r 0), .int k, .int w])).length) Slot.unset).toArray = ls at hl ⊢
  have hl : lv_has ls 3 [(0, .ref (r 0)), (1, .int k), (2, .int w)] := hl
  refine lv_aload_n hx hb dX8_line_0 rfl (lv_at hl 0 rfl) ?_
  refine lv_iconst (v := 0) hx hb dX8_line_1 (by decide) ?_
  refine va_put (D := (dC, dI)) (ci := 8) (v := .int 0) (ty := .int) (C := RX8) (T := TX8) (N := 48) hx hb hts in_m_line_X8 tyX8 tyX8_ok nmX8 hown hK hP hD hS 0 rfl rfl 0 (by decide) (hts (.fieldLink RX8 126 "DepotMarchModel" "code" "I") (by decide +kernel)) (fun _ h9 => h9) rfl (by decide +kernel) rfl rfl (Nat.le_of_ble_eq_true rfl) dX8_line_2 (fun H1 locs hP hD hS => ?_)
  have hP : va_P (dC, dI) vwCl [((r 0), .inr (8, [.int 0, .ref (r 1), .int 0, .ref (r 3), .ref (r 4), .ref (r 5), .ref (r 6), .ref (r 7), .ref (r 8), .ref (r 9), .ref (r 10), .ref (r 11), .ref (r 12), .ref (r 13), .ref (r 14), .ref (r 15), .ref (r 16), .ref (r 17), .ref (r 18), .ref (r 19), .ref (r 20), .ref (r 21), .ref (r 22), .ref (r 23), .ref (r 24), .ref (r 25), .ref (r 26), .ref (r 27), .ref (r 28), .ref (r 29), .int 0, .int 0, .int 0, .int 0, .int 0, .int 0, .int (-1), .int 0, .int 0, .int 0, .int 0, .int 0, .int 0, .ref (r 43), .ref (r 44), .ref (r 45), .int 0, .ref (r 47)])), ((r 28), .inl (cI, 5, .inl (fun _ => 0)))] H1 := hP
  have hD : va_D A [((r 0), .inr (8, [.int 0, .ref (r 1), .int 0, .ref (r 3), .ref (r 4), .ref (r 5), .ref (r 6), .ref (r 7), .ref (r 8), .ref (r 9), .ref (r 10), .ref (r 11), .ref (r 12), .ref (r 13), .ref (r 14), .ref (r 15), .ref (r 16), .ref (r 17), .ref (r 18), .ref (r 19), .ref (r 20), .ref (r 21), .ref (r 22), .ref (r 23), .ref (r 24), .ref (r 25), .ref (r 26), .ref (r 27), .ref (r 28), .ref (r 29), .int 0, .int 0, .int 0, .int 0, .int 0, .int 0, .int (-1), .int 0, .int 0, .int 0, .int 0, .int 0, .int 0, .ref (r 43), .ref (r 44), .ref (r 45), .int 0, .ref (r 47)])), ((r 28), .inl (cI, 5, .inl (fun _ => 0)))] := hD
  refine lv_iload_n hx hb dX8_line_5 rfl (lv_at hl 1 rfl) ?_
  refine lv_iconst (v := 0) hx hb dX8_line_6 (by decide) ?_
  refine lv_sipush (v := 599) hx hb dX8_line_7 (by decide) ?_
  refine vp_callSi (va_Run.run (va_runS (As := [.int k, .int 0, .int 599]) (rest := []) ⟨hx, hb, hml, hown, hts⟩ (c_in l dC dI cI cZ cB cJ cP cW k 0 599) (va_cwS 3 hts g140_m_line_in rfl rfl rfl (by decide +kernel) ⟨Nat.le_of_ble_eq_true rfl, Nat.le_of_ble_eq_true rfl⟩) ⟨fbR, fun U hU hW => ⟨rfl, hE.warm hW, by rw [hU]; exact (fun k q h => by simp at h)⟩⟩ rfl rfl hl.1 rfl (lv_room (Nat.le_of_ble_eq_true rfl)) dX8_line_10 ⟨Nat.le_of_ble_eq_true rfl, Nat.le_of_ble_eq_true rfl⟩)) (fun r2 hr2 => ?_)
  obtain rfl : r2 = (inn k 0 599) := hr2
  refine lv_if_eq (tgt := 49) hx hb dX8_line_13 (by decide) (fun c3 => ?_) (fun c3 => ?_)
  · refine lv_iconst (v := (-1)) hx hb dX8_line_49 (by decide) ?_
    have hP9 := hP.sub (ws' := []) [] rfl
    have hD9 := hD.sub (ws' := []) [] (by decide) rfl
    refine W.widen (k := 0) (n := 0) (by decide) (by decide) ?_
    exact W.iret (v := (-1)) hx hb hr (fun t ht hW => ⟨⟨(-1), (), rfl, rfl, by rw [ht]; exact hP9, hD9⟩, hS.F ht⟩) hS.2.2 dX8_line_50
  · refine lv_iload_n hx hb dX8_line_16 rfl (lv_at hl 1 rfl) ?_
    refine lv_aload_n hx hb dX8_line_17 rfl (lv_at hl 0 rfl) ?_
    refine va_get (D := (dC, dI)) (ci := 8) (v := .ref (r 28)) (C := RX8) (T := TX8) (N := 48) hx hb hts in_m_line_X8 hown hK hP 0 rfl rfl 28 (by decide) (hts (.fieldLink RX8 92 "DepotMarchModel" "lines" "[I") (by decide +kernel)) (fun _ h9 => h9) rfl dX8_line_18 ?_
    refine lv_iconst (v := 0) hx hb dX8_line_21 (by decide) ?_
    refine va_iald hx hb hK hP 1 0 rfl rfl (vpd rfl) dX8_line_22 ?_
    refine lv_topi (fun x4 ex4 => ?_)
    obtain rfl : x4 = 0 := ex4.trans rfl
    refine lv_icmp_ge (tgt := 49) hx hb dX8_line_23 (by decide) (fun _ => ?_) (fun c9 => absurd (Int32.not_lt.mp (inn_lo c3)) c9)
    refine lv_iconst (v := (-1)) hx hb dX8_line_49 (by decide) ?_
    have hP9 := hP.sub (ws' := []) [] rfl
    have hD9 := hD.sub (ws' := []) [] (by decide) rfl
    refine W.widen (k := 0) (n := 0) (by decide) (by decide) ?_
    exact W.iret (v := (-1)) hx hb hr (fun t ht hW => ⟨⟨(-1), (), rfl, rfl, by rw [ht]; exact hP9, hD9⟩, hS.F ht⟩) hS.2.2 dX8_line_50

def vs_m_count : List Cond := [.code yX8_count cX8_count 4 (some .int), .fieldLink RX8 126 "DepotMarchModel" "code" "I", .fieldLink RX8 46 "DepotMarchModel" "day" "[I", .fieldLink RX8 56 "DepotMarchModel" "parties" "[I", .fieldLink RX8 28 "DepotMarchModel" "lots" "[I", .fieldLink RX8 92 "DepotMarchModel" "lines" "[I", .fieldLink RX8 25 "DepotMarchModel" "rations" "[I", .fieldLink RX8 43 "DepotMarchModel" "eaten" "[I", .code yX8_stored cX8_stored 3 (some .int), .fieldLink RX8 40 "DepotMarchModel" "count" "[I", .methodLink RX8 301 yX8_stored, .instanceMethod yX8_stored, .selects RX8 yX8_stored yX8_stored, .initialized RX8, .code yX8_lost cX8_lost 3 (some .int), .methodLink RX8 298 yX8_lost, .instanceMethod yX8_lost, .selects RX8 yX8_lost yX8_lost] ++ (wsX80)
theorem in_m_count_X8 : ∀ w ∈ u_ws RX8 TX8 48, w ∈ vs_m_count := fun w h => List.mem_append_right _ (h)
set_option maxRecDepth 20000 in
theorem gg_m_count_stored : GoodIn vs_m_count vs_stored := goodIn_r _ [8, 9, 18, 19, 20, 21, 22, 23, 24, 25, 26, 27, 28, 29, 30, 31, 32, 33, 34, 35, 36, 37, 38, 39, 40, 41, 42, 43, 44, 45, 46, 47, 48, 49, 50, 51, 52, 53, 54, 55, 56, 57, 58, 59, 60, 61, 62, 63, 64, 65] (by decide +kernel) (by decide +kernel)
set_option maxRecDepth 20000 in
theorem gg_m_count_lost : GoodIn vs_m_count vs_lost := goodIn_r _ [14, 3, 18, 19, 20, 21, 22, 23, 24, 25, 26, 27, 28, 29, 30, 31, 32, 33, 34, 35, 36, 37, 38, 39, 40, 41, 42, 43, 44, 45, 46, 47, 48, 49, 50, 51, 52, 53, 54, 55, 56, 57, 58, 59, 60, 61, 62, 63, 64, 65] (by decide +kernel) (by decide +kernel)
set_option maxRecDepth 20000 in
theorem g301_m_count_stored : GoodIn vs_m_count (wsV RX8 301 RX8 yX8_stored vs_stored) := goodIn_app (goodIn_of _ (by decide +kernel)) gg_m_count_stored
set_option maxRecDepth 20000 in
theorem g298_m_count_lost : GoodIn vs_m_count (wsV RX8 298 RX8 yX8_lost vs_lost) := goodIn_app (goodIn_of _ (by decide +kernel)) gg_m_count_lost
set_option maxHeartbeats 4000000 in
set_option maxRecDepth 100000 in
theorem c_m_count (l : Launch) (dC : Nat → ClassId) (dI : Nat → Nat → Nat) (cI cZ cB cJ cP cW : ClassId) (r : Nat → Nat) (w : Int32) (sz : Nat) : Met l yX8_count vs_m_count ({ frames := 6, cells := 0, slots := 0, locals := 360 }) (va_Pc [.ref (r 0), .int w] (fun U => U.heap.size = sz ∧ EV dC dI cI cZ cB cJ cP cW U ∧ va_P (dC, dI) vwCl [((r 0), .inr (8, [.int 0, .ref (r 1), .int 0, .ref (r 3), .ref (r 4), .ref (r 5), .ref (r 6), .ref (r 7), .ref (r 8), .ref (r 9), .ref (r 10), .ref (r 11), .ref (r 12), .ref (r 13), .ref (r 14), .ref (r 15), .ref (r 16), .ref (r 17), .ref (r 18), .ref (r 19), .ref (r 20), .ref (r 21), .ref (r 22), .ref (r 23), .ref (r 24), .ref (r 25), .ref (r 26), .ref (r 27), .ref (r 28), .ref (r 29), .int 0, .int 0, .int 0, .int 0, .int 0, .int 0, .int (-1), .int 0, .int 0, .int 0, .int 0, .int 0, .int 0, .ref (r 43), .ref (r 44), .ref (r 45), .int 0, .ref (r 47)])), ((r 6), .inl (cI, 5, .inl (fun _ => 0))), ((r 7), .inl (cI, 5, .inl (fun _ => 0))), ((r 11), .inl (cI, 110, .inl (fun _ => 0))), ((r 12), .inl (cI, 600, .inl (fun _ => 0))), ((r 13), .inl (cI, 5, .inl (fun _ => 0))), ((r 16), .inl (cI, 5, .inl (fun _ => 0))), ((r 28), .inl (cI, 5, .inl (fun _ => 0)))] U.heap ∧ va_D (fun _ => True) [((r 0), .inr (8, [.int 0, .ref (r 1), .int 0, .ref (r 3), .ref (r 4), .ref (r 5), .ref (r 6), .ref (r 7), .ref (r 8), .ref (r 9), .ref (r 10), .ref (r 11), .ref (r 12), .ref (r 13), .ref (r 14), .ref (r 15), .ref (r 16), .ref (r 17), .ref (r 18), .ref (r 19), .ref (r 20), .ref (r 21), .ref (r 22), .ref (r 23), .ref (r 24), .ref (r 25), .ref (r 26), .ref (r 27), .ref (r 28), .ref (r 29), .int 0, .int 0, .int 0, .int 0, .int 0, .int 0, .int (-1), .int 0, .int 0, .int 0, .int 0, .int 0, .int 0, .ref (r 43), .ref (r 44), .ref (r 45), .int 0, .ref (r 47)])), ((r 6), .inl (cI, 5, .inl (fun _ => 0))), ((r 7), .inl (cI, 5, .inl (fun _ => 0))), ((r 11), .inl (cI, 110, .inl (fun _ => 0))), ((r 12), .inl (cI, 600, .inl (fun _ => 0))), ((r 13), .inl (cI, 5, .inl (fun _ => 0))), ((r 16), .inl (cI, 5, .inl (fun _ => 0))), ((r 28), .inl (cI, 5, .inl (fun _ => 0)))])) (va_Qi (fun (r : Int32) (u : Unit) => r = if w.toInt < 0 ∨ 8 < w.toInt then -1 else 0) (fun u t => va_P (dC, dI) vwCl [] t.heap ∧ va_D (va_A [((r 0), .inr (8, [.int 0, .ref (r 1), .int 0, .ref (r 3), .ref (r 4), .ref (r 5), .ref (r 6), .ref (r 7), .ref (r 8), .ref (r 9), .ref (r 10), .ref (r 11), .ref (r 12), .ref (r 13), .ref (r 14), .ref (r 15), .ref (r 16), .ref (r 17), .ref (r 18), .ref (r 19), .ref (r 20), .ref (r 21), .ref (r 22), .ref (r 23), .ref (r 24), .ref (r 25), .ref (r 26), .ref (r 27), .ref (r 28), .ref (r 29), .int 0, .int 0, .int 0, .int 0, .int 0, .int 0, .int (-1), .int 0, .int 0, .int 0, .int 0, .int 0, .int 0, .ref (r 43), .ref (r 44), .ref (r 45), .int 0, .ref (r 47)])), ((r 6), .inl (cI, 5, .inl (fun _ => 0))), ((r 7), .inl (cI, 5, .inl (fun _ => 0))), ((r 11), .inl (cI, 110, .inl (fun _ => 0))), ((r 12), .inl (cI, 600, .inl (fun _ => 0))), ((r 13), .inl (cI, 5, .inl (fun _ => 0))), ((r 16), .inl (cI, 5, .inl (fun _ => 0))), ((r 28), .inl (cI, 5, .inl (fun _ => 0)))] sz) []) (va_A [((r 0), .inr (8, [.int 0, .ref (r 1), .int 0, .ref (r 3), .ref (r 4), .ref (r 5), .ref (r 6), .ref (r 7), .ref (r 8), .ref (r 9), .ref (r 10), .ref (r 11), .ref (r 12), .ref (r 13), .ref (r 14), .ref (r 15), .ref (r 16), .ref (r 17), .ref (r 18), .ref (r 19), .ref (r 20), .ref (r 21), .ref (r 22), .ref (r 23), .ref (r 24), .ref (r 25), .ref (r 26), .ref (r 27), .ref (r 28), .ref (r 29), .int 0, .int 0, .int 0, .int 0, .int 0, .int 0, .int (-1), .int 0, .int 0, .int 0, .int 0, .int 0, .int 0, .ref (r 43), .ref (r 44), .ref (r 45), .int 0, .ref (r 47)])), ((r 6), .inl (cI, 5, .inl (fun _ => 0))), ((r 7), .inl (cI, 5, .inl (fun _ => 0))), ((r 11), .inl (cI, 110, .inl (fun _ => 0))), ((r 12), .inl (cI, 600, .inl (fun _ => 0))), ((r 13), .inl (cI, 5, .inl (fun _ => 0))), ((r 16), .inl (cI, 5, .inl (fun _ => 0))), ((r 28), .inl (cI, 5, .inl (fun _ => 0)))] sz)) 0 0 (va_A [((r 0), .inr (8, [.int 0, .ref (r 1), .int 0, .ref (r 3), .ref (r 4), .ref (r 5), .ref (r 6), .ref (r 7), .ref (r 8), .ref (r 9), .ref (r 10), .ref (r 11), .ref (r 12), .ref (r 13), .ref (r 14), .ref (r 15), .ref (r 16), .ref (r 17), .ref (r 18), .ref (r 19), .ref (r 20), .ref (r 21), .ref (r 22), .ref (r 23), .ref (r 24), .ref (r 25), .ref (r 26), .ref (r 27), .ref (r 28), .ref (r 29), .int 0, .int 0, .int 0, .int 0, .int 0, .int 0, .int (-1), .int 0, .int 0, .int 0, .int 0, .int 0, .int 0, .ref (r 43), .ref (r 44), .ref (r 45), .int 0, .ref (r 47)])), ((r 6), .inl (cI, 5, .inl (fun _ => 0))), ((r 7), .inl (cI, 5, .inl (fun _ => 0))), ((r 11), .inl (cI, 110, .inl (fun _ => 0))), ((r 12), .inl (cI, 600, .inl (fun _ => 0))), ((r 13), .inl (cI, 5, .inl (fun _ => 0))), ((r 16), .inl (cI, 5, .inl (fun _ => 0))), ((r 28), .inl (cI, 5, .inl (fun _ => 0)))] sz) := by
  refine Met.ofW (cc := cX8_count) (maxL := 4) (ret := (some .int)) (by decide) rfl ?_
  intro p e s m args below meth c s₁ B hml hv
  obtain ⟨rfl, hsz, hE, hP, hD0⟩ := hv
  have hx := B.exec
  have hb := B.bytes
  have hr := B.returns
  have hts := atoms_spec (ws := vs_m_count) B.pre
  have hown : s.vm.findClass RX8 = some m.cls := findClass_of_methodNamed B.named
  have hlocks := B.notSynchronized
  have hK := hE.2
  subst hsz
  have hD := hD0.self (sz := s.heap.size)
  generalize hAe : va_A [((r 0), .inr (8, [.int 0, .ref (r 1), .int 0, .ref (r 3), .ref (r 4), .ref (r 5), .ref (r 6), .ref (r 7), .ref (r 8), .ref (r 9), .ref (r 10), .ref (r 11), .ref (r 12), .ref (r 13), .ref (r 14), .ref (r 15), .ref (r 16), .ref (r 17), .ref (r 18), .ref (r 19), .ref (r 20), .ref (r 21), .ref (r 22), .ref (r 23), .ref (r 24), .ref (r 25), .ref (r 26), .ref (r 27), .ref (r 28), .ref (r 29), .int 0, .int 0, .int 0, .int 0, .int 0, .int 0, .int (-1), .int 0, .int 0, .int 0, .int 0, .int 0, .int 0, .ref (r 43), .ref (r 44), .ref (r 45), .int 0, .ref (r 47)])), ((r 6), .inl (cI, 5, .inl (fun _ => 0))), ((r 7), .inl (cI, 5, .inl (fun _ => 0))), ((r 11), .inl (cI, 110, .inl (fun _ => 0))), ((r 12), .inl (cI, 600, .inl (fun _ => 0))), ((r 13), .inl (cI, 5, .inl (fun _ => 0))), ((r 16), .inl (cI, 5, .inl (fun _ => 0))), ((r 28), .inl (cI, 5, .inl (fun _ => 0)))] s.heap.size = A at hD ⊢
  have hA : ∀ q : Nat, s.heap.size ≤ q → A q := fun q h => by rw [← hAe]; exact Or.inr h
  have hS : va_S A s.heap s.heap [] := va_S.rf
  have hl := lv_entry ([.ref (r 0), .int w]) (n := 4) (Nat.le_of_ble_eq_true rfl)
  rw [lg_entry_eq]
  generalize (lg_sl ([.ref (r 0), .int w]) ++ List.replicate (4 - (lg_sl ([.ref (r 0), .int w])).length) Slot.unset).toArray = ls at hl ⊢
  have hl : lv_has ls 4 [(0, .ref (r 0)), (1, .int w)] := hl
  refine lv_aload_n hx hb dX8_count_0 rfl (lv_at hl 0 rfl) ?_
  refine lv_iconst (v := 0) hx hb dX8_count_1 (by decide) ?_
  refine va_put (D := (dC, dI)) (ci := 8) (v := .int 0) (ty := .int) (C := RX8) (T := TX8) (N := 48) hx hb hts in_m_count_X8 tyX8 tyX8_ok nmX8 hown hK hP hD hS 0 rfl rfl 0 (by decide) (hts (.fieldLink RX8 126 "DepotMarchModel" "code" "I") (by decide +kernel)) (fun _ h9 => h9) rfl (by decide +kernel) rfl rfl (Nat.le_of_ble_eq_true rfl) dX8_count_2 (fun H1 locs hP hD hS => ?_)
  have hP : va_P (dC, dI) vwCl [((r 0), .inr (8, [.int 0, .ref (r 1), .int 0, .ref (r 3), .ref (r 4), .ref (r 5), .ref (r 6), .ref (r 7), .ref (r 8), .ref (r 9), .ref (r 10), .ref (r 11), .ref (r 12), .ref (r 13), .ref (r 14), .ref (r 15), .ref (r 16), .ref (r 17), .ref (r 18), .ref (r 19), .ref (r 20), .ref (r 21), .ref (r 22), .ref (r 23), .ref (r 24), .ref (r 25), .ref (r 26), .ref (r 27), .ref (r 28), .ref (r 29), .int 0, .int 0, .int 0, .int 0, .int 0, .int 0, .int (-1), .int 0, .int 0, .int 0, .int 0, .int 0, .int 0, .ref (r 43), .ref (r 44), .ref (r 45), .int 0, .ref (r 47)])), ((r 6), .inl (cI, 5, .inl (fun _ => 0))), ((r 7), .inl (cI, 5, .inl (fun _ => 0))), ((r 11), .inl (cI, 110, .inl (fun _ => 0))), ((r 12), .inl (cI, 600, .inl (fun _ => 0))), ((r 13), .inl (cI, 5, .inl (fun _ => 0))), ((r 16), .inl (cI, 5, .inl (fun _ => 0))), ((r 28), .inl (cI, 5, .inl (fun _ => 0)))] H1 := hP
  have hD : va_D A [((r 0), .inr (8, [.int 0, .ref (r 1), .int 0, .ref (r 3), .ref (r 4), .ref (r 5), .ref (r 6), .ref (r 7), .ref (r 8), .ref (r 9), .ref (r 10), .ref (r 11), .ref (r 12), .ref (r 13), .ref (r 14), .ref (r 15), .ref (r 16), .ref (r 17), .ref (r 18), .ref (r 19), .ref (r 20), .ref (r 21), .ref (r 22), .ref (r 23), .ref (r 24), .ref (r 25), .ref (r 26), .ref (r 27), .ref (r 28), .ref (r 29), .int 0, .int 0, .int 0, .int 0, .int 0, .int 0, .int (-1), .int 0, .int 0, .int 0, .int 0, .int 0, .int 0, .ref (r 43), .ref (r 44), .ref (r 45), .int 0, .ref (r 47)])), ((r 6), .inl (cI, 5, .inl (fun _ => 0))), ((r 7), .inl (cI, 5, .inl (fun _ => 0))), ((r 11), .inl (cI, 110, .inl (fun _ => 0))), ((r 12), .inl (cI, 600, .inl (fun _ => 0))), ((r 13), .inl (cI, 5, .inl (fun _ => 0))), ((r 16), .inl (cI, 5, .inl (fun _ => 0))), ((r 28), .inl (cI, 5, .inl (fun _ => 0)))] := hD
  refine lv_iload_n hx hb dX8_count_5 rfl (lv_at hl 1 rfl) ?_
  by_cases hsw : w.toInt < 0 ∨ 8 < w.toInt
  · refine lv_tableOut (tgt := 158) hx hb dX8_count_6 hsw (by decide) ?_
    refine lv_iconst (v := (-1)) hx hb dX8_count_158 (by decide) ?_
    have hP9 := hP.sub (ws' := []) [] rfl
    have hD9 := hD.sub (ws' := []) [] (by decide) rfl
    refine W.widen (k := 0) (n := 0) (by decide) (by decide) ?_
    exact W.iret (v := (-1)) hx hb hr (fun t ht hW => ⟨⟨(-1), (), rfl, (by rw [if_pos hsw]), by rw [ht]; exact hP9, hD9⟩, hS.F ht⟩) hS.2.2 dX8_count_159
  · have hsx : w = 0 ∨ w = 1 ∨ w = 2 ∨ w = 3 ∨ w = 4 ∨ w = 5 ∨ w = 6 ∨ w = 7 ∨ w = 8 := n_cases0_8 hsw
    rcases hsx with rfl | rfl | rfl | rfl | rfl | rfl | rfl | rfl | rfl
    · refine lv_tableIn (tgt := 56) hx hb dX8_count_6 (by decide) (by decide) rfl (by decide) ?_
      refine lv_aload_n hx hb dX8_count_56 rfl (lv_at hl 0 rfl) ?_
      refine va_get (D := (dC, dI)) (ci := 8) (v := .ref (r 13)) (C := RX8) (T := TX8) (N := 48) hx hb hts in_m_count_X8 hown hK hP 0 rfl rfl 13 (by decide) (hts (.fieldLink RX8 46 "DepotMarchModel" "day" "[I") (by decide +kernel)) (fun _ h9 => h9) rfl dX8_count_57 ?_
      refine lv_iconst (v := 0) hx hb dX8_count_60 (by decide) ?_
      refine va_iald hx hb hK hP 5 0 rfl rfl (vpd rfl) dX8_count_61 ?_
      refine lv_topi (fun x2 ex2 => ?_)
      obtain rfl : x2 = 0 := ex2.trans rfl
      have hP9 := hP.sub (ws' := []) [] rfl
      have hD9 := hD.sub (ws' := []) [] (by decide) rfl
      refine W.widen (k := 0) (n := 0) (by decide) (by decide) ?_
      exact W.iret (v := 0) hx hb hr (fun t ht hW => ⟨⟨0, (), rfl, (by decide), by rw [ht]; exact hP9, hD9⟩, hS.F ht⟩) hS.2.2 dX8_count_62
    · refine lv_tableIn (tgt := 63) hx hb dX8_count_6 (by decide) (by decide) rfl (by decide) ?_
      refine lv_aload_n hx hb dX8_count_63 rfl (lv_at hl 0 rfl) ?_
      refine va_get (D := (dC, dI)) (ci := 8) (v := .ref (r 16)) (C := RX8) (T := TX8) (N := 48) hx hb hts in_m_count_X8 hown hK hP 0 rfl rfl 16 (by decide) (hts (.fieldLink RX8 56 "DepotMarchModel" "parties" "[I") (by decide +kernel)) (fun _ h9 => h9) rfl dX8_count_64 ?_
      refine lv_iconst (v := 0) hx hb dX8_count_67 (by decide) ?_
      refine va_iald hx hb hK hP 6 0 rfl rfl (vpd rfl) dX8_count_68 ?_
      refine lv_topi (fun x3 ex3 => ?_)
      obtain rfl : x3 = 0 := ex3.trans rfl
      have hP9 := hP.sub (ws' := []) [] rfl
      have hD9 := hD.sub (ws' := []) [] (by decide) rfl
      refine W.widen (k := 0) (n := 0) (by decide) (by decide) ?_
      exact W.iret (v := 0) hx hb hr (fun t ht hW => ⟨⟨0, (), rfl, (by decide), by rw [ht]; exact hP9, hD9⟩, hS.F ht⟩) hS.2.2 dX8_count_69
    · refine lv_tableIn (tgt := 70) hx hb dX8_count_6 (by decide) (by decide) rfl (by decide) ?_
      refine lv_aload_n hx hb dX8_count_70 rfl (lv_at hl 0 rfl) ?_
      refine va_get (D := (dC, dI)) (ci := 8) (v := .ref (r 7)) (C := RX8) (T := TX8) (N := 48) hx hb hts in_m_count_X8 hown hK hP 0 rfl rfl 7 (by decide) (hts (.fieldLink RX8 28 "DepotMarchModel" "lots" "[I") (by decide +kernel)) (fun _ h9 => h9) rfl dX8_count_71 ?_
      refine lv_iconst (v := 0) hx hb dX8_count_74 (by decide) ?_
      refine va_iald hx hb hK hP 2 0 rfl rfl (vpd rfl) dX8_count_75 ?_
      refine lv_topi (fun x4 ex4 => ?_)
      obtain rfl : x4 = 0 := ex4.trans rfl
      have hP9 := hP.sub (ws' := []) [] rfl
      have hD9 := hD.sub (ws' := []) [] (by decide) rfl
      refine W.widen (k := 0) (n := 0) (by decide) (by decide) ?_
      exact W.iret (v := 0) hx hb hr (fun t ht hW => ⟨⟨0, (), rfl, (by decide), by rw [ht]; exact hP9, hD9⟩, hS.F ht⟩) hS.2.2 dX8_count_76
    · refine lv_tableIn (tgt := 77) hx hb dX8_count_6 (by decide) (by decide) rfl (by decide) ?_
      refine lv_aload_n hx hb dX8_count_77 rfl (lv_at hl 0 rfl) ?_
      refine va_get (D := (dC, dI)) (ci := 8) (v := .ref (r 28)) (C := RX8) (T := TX8) (N := 48) hx hb hts in_m_count_X8 hown hK hP 0 rfl rfl 28 (by decide) (hts (.fieldLink RX8 92 "DepotMarchModel" "lines" "[I") (by decide +kernel)) (fun _ h9 => h9) rfl dX8_count_78 ?_
      refine lv_iconst (v := 0) hx hb dX8_count_81 (by decide) ?_
      refine va_iald hx hb hK hP 7 0 rfl rfl (vpd rfl) dX8_count_82 ?_
      refine lv_topi (fun x5 ex5 => ?_)
      obtain rfl : x5 = 0 := ex5.trans rfl
      have hP9 := hP.sub (ws' := []) [] rfl
      have hD9 := hD.sub (ws' := []) [] (by decide) rfl
      refine W.widen (k := 0) (n := 0) (by decide) (by decide) ?_
      exact W.iret (v := 0) hx hb hr (fun t ht hW => ⟨⟨0, (), rfl, (by decide), by rw [ht]; exact hP9, hD9⟩, hS.F ht⟩) hS.2.2 dX8_count_83
    · refine lv_tableIn (tgt := 84) hx hb dX8_count_6 (by decide) (by decide) rfl (by decide) ?_
      refine lv_aload_n hx hb dX8_count_84 rfl (lv_at hl 0 rfl) ?_
      refine va_get (D := (dC, dI)) (ci := 8) (v := .ref (r 6)) (C := RX8) (T := TX8) (N := 48) hx hb hts in_m_count_X8 hown hK hP 0 rfl rfl 6 (by decide) (hts (.fieldLink RX8 25 "DepotMarchModel" "rations" "[I") (by decide +kernel)) (fun _ h9 => h9) rfl dX8_count_85 ?_
      refine lv_iconst (v := 0) hx hb dX8_count_88 (by decide) ?_
      refine va_iald hx hb hK hP 1 0 rfl rfl (vpd rfl) dX8_count_89 ?_
      refine lv_topi (fun x6 ex6 => ?_)
      obtain rfl : x6 = 0 := ex6.trans rfl
      have hP9 := hP.sub (ws' := []) [] rfl
      have hD9 := hD.sub (ws' := []) [] (by decide) rfl
      refine W.widen (k := 0) (n := 0) (by decide) (by decide) ?_
      exact W.iret (v := 0) hx hb hr (fun t ht hW => ⟨⟨0, (), rfl, (by decide), by rw [ht]; exact hP9, hD9⟩, hS.F ht⟩) hS.2.2 dX8_count_90
    · refine lv_tableIn (tgt := 91) hx hb dX8_count_6 (by decide) (by decide) rfl (by decide) ?_
      refine lv_iconst (v := 0) hx hb dX8_count_91 (by decide) ?_
      refine lv_istore_n (lv' := [(2, .int 0), (0, .ref (r 0)), (1, .int 5)]) hx hb dX8_count_92 rfl hl (by decide) rfl (fun ls hl => ?_)
      refine lv_iconst (v := 0) hx hb dX8_count_93 (by decide) ?_
      refine lv_istore_n (lv' := [(3, .int 0), (2, .int 0), (0, .ref (r 0)), (1, .int 5)]) hx hb dX8_count_94 rfl hl (by decide) rfl (fun ls hl => ?_)
      have hl := lv_sub hl [2, 1, 0] rfl
      refine W_loop (σ := Nat) (fun x9 => match x9 with | k => 120 - k) (fun x9 H7 locs ls => match x9 with | k => (k ≤ 120) ∧ va_P (dC, dI) vwCl [((r 0), .inr (8, [.int 0, .ref (r 1), .int 0, .ref (r 3), .ref (r 4), .ref (r 5), .ref (r 6), .ref (r 7), .ref (r 8), .ref (r 9), .ref (r 10), .ref (r 11), .ref (r 12), .ref (r 13), .ref (r 14), .ref (r 15), .ref (r 16), .ref (r 17), .ref (r 18), .ref (r 19), .ref (r 20), .ref (r 21), .ref (r 22), .ref (r 23), .ref (r 24), .ref (r 25), .ref (r 26), .ref (r 27), .ref (r 28), .ref (r 29), .int 0, .int 0, .int 0, .int 0, .int 0, .int 0, .int (-1), .int 0, .int 0, .int 0, .int 0, .int 0, .int 0, .ref (r 43), .ref (r 44), .ref (r 45), .int 0, .ref (r 47)])), ((r 6), .inl (cI, 5, .inl (fun _ => 0))), ((r 7), .inl (cI, 5, .inl (fun _ => 0))), ((r 11), .inl (cI, 110, .inl (fun _ => 0))), ((r 12), .inl (cI, 600, .inl (fun _ => 0))), ((r 13), .inl (cI, 5, .inl (fun _ => 0))), ((r 16), .inl (cI, 5, .inl (fun _ => 0))), ((r 28), .inl (cI, 5, .inl (fun _ => 0)))] H7 ∧ va_D A [((r 0), .inr (8, [.int 0, .ref (r 1), .int 0, .ref (r 3), .ref (r 4), .ref (r 5), .ref (r 6), .ref (r 7), .ref (r 8), .ref (r 9), .ref (r 10), .ref (r 11), .ref (r 12), .ref (r 13), .ref (r 14), .ref (r 15), .ref (r 16), .ref (r 17), .ref (r 18), .ref (r 19), .ref (r 20), .ref (r 21), .ref (r 22), .ref (r 23), .ref (r 24), .ref (r 25), .ref (r 26), .ref (r 27), .ref (r 28), .ref (r 29), .int 0, .int 0, .int 0, .int 0, .int 0, .int 0, .int (-1), .int 0, .int 0, .int 0, .int 0, .int 0, .int 0, .ref (r 43), .ref (r 44), .ref (r 45), .int 0, .ref (r 47)])), ((r 6), .inl (cI, 5, .inl (fun _ => 0))), ((r 7), .inl (cI, 5, .inl (fun _ => 0))), ((r 11), .inl (cI, 110, .inl (fun _ => 0))), ((r 12), .inl (cI, 600, .inl (fun _ => 0))), ((r 13), .inl (cI, 5, .inl (fun _ => 0))), ((r 16), .inl (cI, 5, .inl (fun _ => 0))), ((r 28), .inl (cI, 5, .inl (fun _ => 0)))] ∧ va_S A s.heap H7 locs ∧ lv_has ls 4 [(0, .ref (r 0)), (2, .int 0), (3, .int (nI k))]) (fun x9 H7 locs ls hI9 ih => ?_) 0 _ _ _ ⟨Nat.zero_le _, hP.sub [0, 1, 2, 3, 4, 5, 6, 7] rfl, hD.sub [0, 1, 2, 3, 4, 5, 6, 7] (by decide) rfl, hS, hl⟩
      obtain ⟨k, e9⟩ : ∃ z, z = x9 := ⟨_, rfl⟩; subst e9
      dsimp only at hI9
      obtain ⟨hinv, hP, hD, hS, hl⟩ := hI9
      refine lv_iload_n hx hb dX8_count_95 rfl (lv_at hl 2 rfl) ?_
      refine lv_bipush (v := 120) hx hb dX8_count_96 (by decide) ?_
      refine lv_icmp_ge (tgt := 116) hx hb dX8_count_98 (by decide) (fun c8 => ?_) (fun c8 => ?_)
      · refine lv_iload_n hx hb dX8_count_116 rfl (lv_at hl 1 rfl) ?_
        have hP9 := hP.sub (ws' := []) [] rfl
        have hD9 := hD.sub (ws' := []) [] (by decide) rfl
        refine W.widen (k := 0) (n := 0) (by decide) (by decide) ?_
        exact W.iret (v := 0) hx hb hr (fun t ht hW => ⟨⟨0, (), rfl, (by decide), by rw [ht]; exact hP9, hD9⟩, hS.F ht⟩) hS.2.2 dX8_count_117
      · have hk : k < 120 := Nat.lt_of_not_le (fun h => absurd (nI_le (a := 120) h (by omega)) c8)
        refine lv_iload_n hx hb dX8_count_101 rfl (lv_at hl 1 rfl) ?_
        refine lv_aload_n hx hb dX8_count_102 rfl (lv_at hl 0 rfl) ?_
        refine va_get (D := (dC, dI)) (ci := 8) (v := .ref (r 12)) (C := RX8) (T := TX8) (N := 48) hx hb hts in_m_count_X8 hown hK hP 0 rfl rfl 12 (by decide) (hts (.fieldLink RX8 43 "DepotMarchModel" "eaten" "[I") (by decide +kernel)) (fun _ h9 => h9) rfl dX8_count_103 ?_
        refine lv_iload_n hx hb dX8_count_106 rfl (lv_at hl 2 rfl) ?_
        refine va_iald hx hb hK hP 4 0 rfl rfl (vp_in_nI (N := 600) (by omega) (by decide)) dX8_count_107 ?_
        refine lv_topi (fun x9 ex9 => ?_)
        obtain rfl : x9 = 0 := ex9.trans rfl
        refine lv_iadd hx hb dX8_count_108 ?_
        refine lv_topi (fun x10 ex10 => ?_)
        obtain rfl : x10 = 0 := ex10.trans (by decide)
        refine lv_istore_n (lv' := [(2, .int 0), (0, .ref (r 0)), (3, .int (nI k))]) hx hb dX8_count_109 rfl hl (by decide) rfl (fun ls hl => ?_)
        refine lv_iinc (v := (nI (k + 1))) (lv' := [(3, .int (nI (k + 1))), (2, .int 0), (0, .ref (r 0))]) hx hb dX8_count_110 hl (k := 2) rfl (nI_1 k) (by decide) rfl (fun ls hl => ?_)
        refine lv_goto (tgt := 95) hx hb dX8_count_113 (by decide) ?_
        exact ih (k + 1) _ _ _ ⟨hk, hP.sub [0, 1, 2, 3, 4, 5, 6, 7] rfl, hD.sub [0, 1, 2, 3, 4, 5, 6, 7] (by decide) rfl, hS, lv_sub hl [2, 1, 0] rfl⟩ (by show 120 - (k + 1) < 120 - k; omega)
    · refine lv_tableIn (tgt := 118) hx hb dX8_count_6 (by decide) (by decide) rfl (by decide) ?_
      refine lv_aload_n hx hb dX8_count_118 rfl (lv_at hl 0 rfl) ?_
      have hPc := hP.sub (ws' := [((r 0), .inr (8, [.int 0, .ref (r 1), .int 0, .ref (r 3), .ref (r 4), .ref (r 5), .ref (r 6), .ref (r 7), .ref (r 8), .ref (r 9), .ref (r 10), .ref (r 11), .ref (r 12), .ref (r 13), .ref (r 14), .ref (r 15), .ref (r 16), .ref (r 17), .ref (r 18), .ref (r 19), .ref (r 20), .ref (r 21), .ref (r 22), .ref (r 23), .ref (r 24), .ref (r 25), .ref (r 26), .ref (r 27), .ref (r 28), .ref (r 29), .int 0, .int 0, .int 0, .int 0, .int 0, .int 0, .int (-1), .int 0, .int 0, .int 0, .int 0, .int 0, .int 0, .ref (r 43), .ref (r 44), .ref (r 45), .int 0, .ref (r 47)])), ((r 11), .inl (cI, 110, .inl (fun _ => 0)))]) [0, 3] rfl
      refine vp_callSi (va_Run.run (va_runV (As := []) (rest := []) ⟨hx, hb, hml, hown, hts⟩ ((c_stored l dC dI cI cZ cB cJ cP cW r (fun _ => 0)) (fun _ _ => rfl)) (cwV 0 hts g301_m_count_stored rfl rfl rfl (by decide +kernel) ⟨Nat.le_of_ble_eq_true rfl, Nat.le_of_ble_eq_true rfl⟩) ⟨fbR, va_recv hK hPc (ci := 8) (q0 := 0) rfl rfl, fun U hU hW => ⟨rfl, hE.warm hW, by rw [hU]; exact hPc⟩⟩ rfl rfl hl.1 rfl (lv_room (Nat.le_of_ble_eq_true rfl)) dX8_count_119 ⟨Nat.le_of_ble_eq_true rfl, Nat.le_of_ble_eq_true rfl⟩)) (fun r11 hr11 => ?_)
      obtain rfl : r11 = 0 := hr11
      have hP9 := hP.sub (ws' := []) [] rfl
      have hD9 := hD.sub (ws' := []) [] (by decide) rfl
      refine W.widen (k := 0) (n := 0) (by decide) (by decide) ?_
      exact W.iret (v := 0) hx hb hr (fun t ht hW => ⟨⟨0, (), rfl, (by decide), by rw [ht]; exact hP9, hD9⟩, hS.F ht⟩) hS.2.2 dX8_count_122
    · refine lv_tableIn (tgt := 123) hx hb dX8_count_6 (by decide) (by decide) rfl (by decide) ?_
      refine lv_iconst (v := 0) hx hb dX8_count_123 (by decide) ?_
      refine lv_istore_n (lv' := [(2, .int 0), (0, .ref (r 0)), (1, .int 7)]) hx hb dX8_count_124 rfl hl (by decide) rfl (fun ls hl => ?_)
      refine lv_iconst (v := 0) hx hb dX8_count_125 (by decide) ?_
      refine lv_istore_n (lv' := [(3, .int 0), (2, .int 0), (0, .ref (r 0)), (1, .int 7)]) hx hb dX8_count_126 rfl hl (by decide) rfl (fun ls hl => ?_)
      refine lv_iload_n hx hb dX8_count_127 rfl (lv_at hl 0 rfl) ?_
      refine lv_bipush (v := 6) hx hb dX8_count_128 (by decide) ?_
      refine lv_icmp_ge (tgt := 151) hx hb dX8_count_130 (by decide) (fun c9 => absurd c9 (by decide)) (fun _ => ?_)
      refine lv_iload_n hx hb dX8_count_133 rfl (lv_at hl 1 rfl) ?_
      refine lv_aload_n hx hb dX8_count_134 rfl (lv_at hl 2 rfl) ?_
      refine va_get (D := (dC, dI)) (ci := 8) (v := .ref (r 11)) (C := RX8) (T := TX8) (N := 48) hx hb hts in_m_count_X8 hown hK hP 0 rfl rfl 11 (by decide) (hts (.fieldLink RX8 40 "DepotMarchModel" "count" "[I") (by decide +kernel)) (fun _ h9 => h9) rfl dX8_count_135 ?_
      refine lv_bipush (v := 16) hx hb dX8_count_138 (by decide) ?_
      refine lv_iload_n hx hb dX8_count_140 rfl (lv_at hl 0 rfl) ?_
      refine lv_iadd hx hb dX8_count_141 ?_
      refine lv_topi (fun x13 ex13 => ?_)
      obtain rfl : x13 = 16 := ex13.trans (by decide)
      refine va_iald hx hb hK hP 3 0 rfl rfl (vpd rfl) dX8_count_142 ?_
      refine lv_topi (fun x14 ex14 => ?_)
      obtain rfl : x14 = 0 := ex14.trans rfl
      refine lv_iadd hx hb dX8_count_143 ?_
      refine lv_topi (fun x15 ex15 => ?_)
      obtain rfl : x15 = 0 := ex15.trans (by decide)
      refine lv_istore_n (lv' := [(2, .int 0), (3, .int 0), (0, .ref (r 0)), (1, .int 7)]) hx hb dX8_count_144 rfl hl (by decide) rfl (fun ls hl => ?_)
      refine lv_iinc (v := 1) (lv' := [(3, .int 1), (2, .int 0), (0, .ref (r 0)), (1, .int 7)]) hx hb dX8_count_145 hl (k := 1) rfl (by decide) (by decide) rfl (fun ls hl => ?_)
      refine lv_goto (tgt := 127) hx hb dX8_count_148 (by decide) ?_
      refine lv_iload_n hx hb dX8_count_127 rfl (lv_at hl 0 rfl) ?_
      refine lv_bipush (v := 6) hx hb dX8_count_128 (by decide) ?_
      refine lv_icmp_ge (tgt := 151) hx hb dX8_count_130 (by decide) (fun c9 => absurd c9 (by decide)) (fun _ => ?_)
      refine lv_iload_n hx hb dX8_count_133 rfl (lv_at hl 1 rfl) ?_
      refine lv_aload_n hx hb dX8_count_134 rfl (lv_at hl 2 rfl) ?_
      refine va_get (D := (dC, dI)) (ci := 8) (v := .ref (r 11)) (C := RX8) (T := TX8) (N := 48) hx hb hts in_m_count_X8 hown hK hP 0 rfl rfl 11 (by decide) (hts (.fieldLink RX8 40 "DepotMarchModel" "count" "[I") (by decide +kernel)) (fun _ h9 => h9) rfl dX8_count_135 ?_
      refine lv_bipush (v := 16) hx hb dX8_count_138 (by decide) ?_
      refine lv_iload_n hx hb dX8_count_140 rfl (lv_at hl 0 rfl) ?_
      refine lv_iadd hx hb dX8_count_141 ?_
      refine lv_topi (fun x17 ex17 => ?_)
      obtain rfl : x17 = 17 := ex17.trans (by decide)
      refine va_iald hx hb hK hP 3 0 rfl rfl (vpd rfl) dX8_count_142 ?_
      refine lv_topi (fun x18 ex18 => ?_)
      obtain rfl : x18 = 0 := ex18.trans rfl
      refine lv_iadd hx hb dX8_count_143 ?_
      refine lv_topi (fun x19 ex19 => ?_)
      obtain rfl : x19 = 0 := ex19.trans (by decide)
      refine lv_istore_n (lv' := [(2, .int 0), (3, .int 1), (0, .ref (r 0)), (1, .int 7)]) hx hb dX8_count_144 rfl hl (by decide) rfl (fun ls hl => ?_)
      refine lv_iinc (v := 2) (lv' := [(3, .int 2), (2, .int 0), (0, .ref (r 0)), (1, .int 7)]) hx hb dX8_count_145 hl (k := 1) rfl (by decide) (by decide) rfl (fun ls hl => ?_)
      refine lv_goto (tgt := 127) hx hb dX8_count_148 (by decide) ?_
      refine lv_iload_n hx hb dX8_count_127 rfl (lv_at hl 0 rfl) ?_
      refine lv_bipush (v := 6) hx hb dX8_count_128 (by decide) ?_
      refine lv_icmp_ge (tgt := 151) hx hb dX8_count_130 (by decide) (fun c9 => absurd c9 (by decide)) (fun _ => ?_)
      refine lv_iload_n hx hb dX8_count_133 rfl (lv_at hl 1 rfl) ?_
      refine lv_aload_n hx hb dX8_count_134 rfl (lv_at hl 2 rfl) ?_
      refine va_get (D := (dC, dI)) (ci := 8) (v := .ref (r 11)) (C := RX8) (T := TX8) (N := 48) hx hb hts in_m_count_X8 hown hK hP 0 rfl rfl 11 (by decide) (hts (.fieldLink RX8 40 "DepotMarchModel" "count" "[I") (by decide +kernel)) (fun _ h9 => h9) rfl dX8_count_135 ?_
      refine lv_bipush (v := 16) hx hb dX8_count_138 (by decide) ?_
      refine lv_iload_n hx hb dX8_count_140 rfl (lv_at hl 0 rfl) ?_
      refine lv_iadd hx hb dX8_count_141 ?_
      refine lv_topi (fun x21 ex21 => ?_)
      obtain rfl : x21 = 18 := ex21.trans (by decide)
      refine va_iald hx hb hK hP 3 0 rfl rfl (vpd rfl) dX8_count_142 ?_
      refine lv_topi (fun x22 ex22 => ?_)
      obtain rfl : x22 = 0 := ex22.trans rfl
      refine lv_iadd hx hb dX8_count_143 ?_
      refine lv_topi (fun x23 ex23 => ?_)
      obtain rfl : x23 = 0 := ex23.trans (by decide)
      refine lv_istore_n (lv' := [(2, .int 0), (3, .int 2), (0, .ref (r 0)), (1, .int 7)]) hx hb dX8_count_144 rfl hl (by decide) rfl (fun ls hl => ?_)
      refine lv_iinc (v := 3) (lv' := [(3, .int 3), (2, .int 0), (0, .ref (r 0)), (1, .int 7)]) hx hb dX8_count_145 hl (k := 1) rfl (by decide) (by decide) rfl (fun ls hl => ?_)
      refine lv_goto (tgt := 127) hx hb dX8_count_148 (by decide) ?_
      refine lv_iload_n hx hb dX8_count_127 rfl (lv_at hl 0 rfl) ?_
      refine lv_bipush (v := 6) hx hb dX8_count_128 (by decide) ?_
      refine lv_icmp_ge (tgt := 151) hx hb dX8_count_130 (by decide) (fun c9 => absurd c9 (by decide)) (fun _ => ?_)
      refine lv_iload_n hx hb dX8_count_133 rfl (lv_at hl 1 rfl) ?_
      refine lv_aload_n hx hb dX8_count_134 rfl (lv_at hl 2 rfl) ?_
      refine va_get (D := (dC, dI)) (ci := 8) (v := .ref (r 11)) (C := RX8) (T := TX8) (N := 48) hx hb hts in_m_count_X8 hown hK hP 0 rfl rfl 11 (by decide) (hts (.fieldLink RX8 40 "DepotMarchModel" "count" "[I") (by decide +kernel)) (fun _ h9 => h9) rfl dX8_count_135 ?_
      refine lv_bipush (v := 16) hx hb dX8_count_138 (by decide) ?_
      refine lv_iload_n hx hb dX8_count_140 rfl (lv_at hl 0 rfl) ?_
      refine lv_iadd hx hb dX8_count_141 ?_
      refine lv_topi (fun x25 ex25 => ?_)
      obtain rfl : x25 = 19 := ex25.trans (by decide)
      refine va_iald hx hb hK hP 3 0 rfl rfl (vpd rfl) dX8_count_142 ?_
      refine lv_topi (fun x26 ex26 => ?_)
      obtain rfl : x26 = 0 := ex26.trans rfl
      refine lv_iadd hx hb dX8_count_143 ?_
      refine lv_topi (fun x27 ex27 => ?_)
      obtain rfl : x27 = 0 := ex27.trans (by decide)
      refine lv_istore_n (lv' := [(2, .int 0), (3, .int 3), (0, .ref (r 0)), (1, .int 7)]) hx hb dX8_count_144 rfl hl (by decide) rfl (fun ls hl => ?_)
      refine lv_iinc (v := 4) (lv' := [(3, .int 4), (2, .int 0), (0, .ref (r 0)), (1, .int 7)]) hx hb dX8_count_145 hl (k := 1) rfl (by decide) (by decide) rfl (fun ls hl => ?_)
      refine lv_goto (tgt := 127) hx hb dX8_count_148 (by decide) ?_
      refine lv_iload_n hx hb dX8_count_127 rfl (lv_at hl 0 rfl) ?_
      refine lv_bipush (v := 6) hx hb dX8_count_128 (by decide) ?_
      refine lv_icmp_ge (tgt := 151) hx hb dX8_count_130 (by decide) (fun c9 => absurd c9 (by decide)) (fun _ => ?_)
      refine lv_iload_n hx hb dX8_count_133 rfl (lv_at hl 1 rfl) ?_
      refine lv_aload_n hx hb dX8_count_134 rfl (lv_at hl 2 rfl) ?_
      refine va_get (D := (dC, dI)) (ci := 8) (v := .ref (r 11)) (C := RX8) (T := TX8) (N := 48) hx hb hts in_m_count_X8 hown hK hP 0 rfl rfl 11 (by decide) (hts (.fieldLink RX8 40 "DepotMarchModel" "count" "[I") (by decide +kernel)) (fun _ h9 => h9) rfl dX8_count_135 ?_
      refine lv_bipush (v := 16) hx hb dX8_count_138 (by decide) ?_
      refine lv_iload_n hx hb dX8_count_140 rfl (lv_at hl 0 rfl) ?_
      refine lv_iadd hx hb dX8_count_141 ?_
      refine lv_topi (fun x29 ex29 => ?_)
      obtain rfl : x29 = 20 := ex29.trans (by decide)
      refine va_iald hx hb hK hP 3 0 rfl rfl (vpd rfl) dX8_count_142 ?_
      refine lv_topi (fun x30 ex30 => ?_)
      obtain rfl : x30 = 0 := ex30.trans rfl
      refine lv_iadd hx hb dX8_count_143 ?_
      refine lv_topi (fun x31 ex31 => ?_)
      obtain rfl : x31 = 0 := ex31.trans (by decide)
      refine lv_istore_n (lv' := [(2, .int 0), (3, .int 4), (0, .ref (r 0)), (1, .int 7)]) hx hb dX8_count_144 rfl hl (by decide) rfl (fun ls hl => ?_)
      refine lv_iinc (v := 5) (lv' := [(3, .int 5), (2, .int 0), (0, .ref (r 0)), (1, .int 7)]) hx hb dX8_count_145 hl (k := 1) rfl (by decide) (by decide) rfl (fun ls hl => ?_)
      refine lv_goto (tgt := 127) hx hb dX8_count_148 (by decide) ?_
      refine lv_iload_n hx hb dX8_count_127 rfl (lv_at hl 0 rfl) ?_
      refine lv_bipush (v := 6) hx hb dX8_count_128 (by decide) ?_
      refine lv_icmp_ge (tgt := 151) hx hb dX8_count_130 (by decide) (fun c9 => absurd c9 (by decide)) (fun _ => ?_)
      refine lv_iload_n hx hb dX8_count_133 rfl (lv_at hl 1 rfl) ?_
      refine lv_aload_n hx hb dX8_count_134 rfl (lv_at hl 2 rfl) ?_
      refine va_get (D := (dC, dI)) (ci := 8) (v := .ref (r 11)) (C := RX8) (T := TX8) (N := 48) hx hb hts in_m_count_X8 hown hK hP 0 rfl rfl 11 (by decide) (hts (.fieldLink RX8 40 "DepotMarchModel" "count" "[I") (by decide +kernel)) (fun _ h9 => h9) rfl dX8_count_135 ?_
      refine lv_bipush (v := 16) hx hb dX8_count_138 (by decide) ?_
      refine lv_iload_n hx hb dX8_count_140 rfl (lv_at hl 0 rfl) ?_
      refine lv_iadd hx hb dX8_count_141 ?_
      refine lv_topi (fun x33 ex33 => ?_)
      obtain rfl : x33 = 21 := ex33.trans (by decide)
      refine va_iald hx hb hK hP 3 0 rfl rfl (vpd rfl) dX8_count_142 ?_
      refine lv_topi (fun x34 ex34 => ?_)
      obtain rfl : x34 = 0 := ex34.trans rfl
      refine lv_iadd hx hb dX8_count_143 ?_
      refine lv_topi (fun x35 ex35 => ?_)
      obtain rfl : x35 = 0 := ex35.trans (by decide)
      refine lv_istore_n (lv' := [(2, .int 0), (3, .int 5), (0, .ref (r 0)), (1, .int 7)]) hx hb dX8_count_144 rfl hl (by decide) rfl (fun ls hl => ?_)
      refine lv_iinc (v := 6) (lv' := [(3, .int 6), (2, .int 0), (0, .ref (r 0)), (1, .int 7)]) hx hb dX8_count_145 hl (k := 1) rfl (by decide) (by decide) rfl (fun ls hl => ?_)
      refine lv_goto (tgt := 127) hx hb dX8_count_148 (by decide) ?_
      refine lv_iload_n hx hb dX8_count_127 rfl (lv_at hl 0 rfl) ?_
      refine lv_bipush (v := 6) hx hb dX8_count_128 (by decide) ?_
      refine lv_icmp_ge (tgt := 151) hx hb dX8_count_130 (by decide) (fun _ => ?_) (fun c9 => absurd (by decide) c9)
      refine lv_iload_n hx hb dX8_count_151 rfl (lv_at hl 1 rfl) ?_
      have hP9 := hP.sub (ws' := []) [] rfl
      have hD9 := hD.sub (ws' := []) [] (by decide) rfl
      refine W.widen (k := 0) (n := 0) (by decide) (by decide) ?_
      exact W.iret (v := 0) hx hb hr (fun t ht hW => ⟨⟨0, (), rfl, (by decide), by rw [ht]; exact hP9, hD9⟩, hS.F ht⟩) hS.2.2 dX8_count_152
    · refine lv_tableIn (tgt := 153) hx hb dX8_count_6 (by decide) (by decide) rfl (by decide) ?_
      refine lv_aload_n hx hb dX8_count_153 rfl (lv_at hl 0 rfl) ?_
      have hPc := hP.sub (ws' := [((r 0), .inr (8, [.int 0, .ref (r 1), .int 0, .ref (r 3), .ref (r 4), .ref (r 5), .ref (r 6), .ref (r 7), .ref (r 8), .ref (r 9), .ref (r 10), .ref (r 11), .ref (r 12), .ref (r 13), .ref (r 14), .ref (r 15), .ref (r 16), .ref (r 17), .ref (r 18), .ref (r 19), .ref (r 20), .ref (r 21), .ref (r 22), .ref (r 23), .ref (r 24), .ref (r 25), .ref (r 26), .ref (r 27), .ref (r 28), .ref (r 29), .int 0, .int 0, .int 0, .int 0, .int 0, .int 0, .int (-1), .int 0, .int 0, .int 0, .int 0, .int 0, .int 0, .ref (r 43), .ref (r 44), .ref (r 45), .int 0, .ref (r 47)])), ((r 16), .inl (cI, 5, .inl (fun _ => 0)))]) [0, 6] rfl
      refine vp_callSi (va_Run.run (va_runV (As := []) (rest := []) ⟨hx, hb, hml, hown, hts⟩ ((c_lost l dC dI cI cZ cB cJ cP cW r (fun _ => 0)) rfl) (cwV 0 hts g298_m_count_lost rfl rfl rfl (by decide +kernel) ⟨Nat.le_of_ble_eq_true rfl, Nat.le_of_ble_eq_true rfl⟩) ⟨fbR, va_recv hK hPc (ci := 8) (q0 := 0) rfl rfl, fun U hU hW => ⟨rfl, hE.warm hW, by rw [hU]; exact hPc⟩⟩ rfl rfl hl.1 rfl (lv_room (Nat.le_of_ble_eq_true rfl)) dX8_count_154 ⟨Nat.le_of_ble_eq_true rfl, Nat.le_of_ble_eq_true rfl⟩)) (fun r37 hr37 => ?_)
      obtain rfl : r37 = 0 := hr37
      have hP9 := hP.sub (ws' := []) [] rfl
      have hD9 := hD.sub (ws' := []) [] (by decide) rfl
      refine W.widen (k := 0) (n := 0) (by decide) (by decide) ?_
      exact W.iret (v := 0) hx hb hr (fun t ht hW => ⟨⟨0, (), rfl, (by decide), by rw [ht]; exact hP9, hD9⟩, hS.F ht⟩) hS.2.2 dX8_count_157

def vs_needed : List Cond := [.code yX8_needed cX8_needed 5 (some .int)]
set_option maxHeartbeats 4000000 in
set_option maxRecDepth 100000 in
theorem c_needed (l : Launch) (dC : Nat → ClassId) (dI : Nat → Nat → Nat) (cI cZ cB cJ cP cW : ClassId) (k : Int32) (J : Nat) (hk : ¬ k - 2 = 0) (hJ : J < 100) : Met l yX8_needed vs_needed ({ frames := 1, cells := 0, slots := 0, locals := 60 }) (va_Pc [.int k, .int (nI J)] (fun U => EV dC dI cI cZ cB cJ cP cW U ∧ va_P (dC, dI) vwCl [] U.heap)) (vp_Si (fun r => r = nd2 k J)) 0 0 (fun _ => False) := by
  refine Met.ofW (cc := cX8_needed) (maxL := 5) (ret := (some .int)) (by decide) rfl ?_
  intro p e s m args below meth c s₁ B hml hv
  obtain ⟨rfl, hE, hP⟩ := hv
  have hx := B.exec
  have hb := B.bytes
  have hr := B.returns
  have hts := atoms_spec (ws := vs_needed) B.pre
  have hown : s.vm.findClass RX8 = some m.cls := findClass_of_methodNamed B.named
  have hlocks := B.notSynchronized
  have hK := hE.2
  have hA : True := trivial
  have hS : va_S (fun _ => False) s.heap s.heap [] := va_S.rf
  have hl := lv_entry ([.int k, .int (nI J)]) (n := 5) (Nat.le_of_ble_eq_true rfl)
  rw [lg_entry_eq]
  generalize (lg_sl ([.int k, .int (nI J)]) ++ List.replicate (5 - (lg_sl ([.int k, .int (nI J)])).length) Slot.unset).toArray = ls at hl ⊢
  have hl : lv_has ls 5 [(0, .int k), (1, .int (nI J))] := hl
  refine lv_iconst (v := 0) hx hb dX8_needed_0 (by decide) ?_
  refine lv_istore_n (lv' := [(2, .int 0), (0, .int k), (1, .int (nI J))]) hx hb dX8_needed_1 rfl hl (by decide) rfl (fun ls hl => ?_)
  refine lv_iconst (v := 0) hx hb dX8_needed_2 (by decide) ?_
  refine lv_istore_n (lv' := [(3, .int 0), (2, .int 0), (0, .int k), (1, .int (nI J))]) hx hb dX8_needed_3 rfl hl (by decide) rfl (fun ls hl => ?_)
  have hl := lv_sub hl [2, 3, 1, 0] rfl
  refine W_loop (σ := Nat) (fun x9 => match x9 with | j => J - j) (fun x9 H1 locs ls => match x9 with | j => (j ≤ J) ∧ H1 = s.heap ∧ locs = [] ∧ lv_has ls 5 [(0, .int k), (1, .int (nI J)), (2, .int (nd2 k j)), (3, .int (nI j))]) (fun x9 H1 locs ls hI9 ih => ?_) 0 _ _ _ ⟨Nat.zero_le _, rfl, rfl, hl⟩
  obtain ⟨j, e9⟩ : ∃ z, z = x9 := ⟨_, rfl⟩; subst e9
  dsimp only at hI9
  obtain ⟨hinv, rfl, rfl, hl⟩ := hI9
  refine lv_iload_n hx hb dX8_needed_4 rfl (lv_at hl 3 rfl) ?_
  refine lv_iload_n hx hb dX8_needed_5 rfl (lv_at hl 1 rfl) ?_
  refine lv_icmp_ge (tgt := 43) hx hb dX8_needed_6 (by decide) (fun c2 => ?_) (fun c2 => ?_)
  · refine lv_iload_n hx hb dX8_needed_43 rfl (lv_at hl 2 rfl) ?_
    exact W.iret (v := (nd2 k j)) hx hb hr (fun t ht hW => ⟨(nd2 k j), rfl, (by rw [Nat.le_antisymm hinv (Nat.le_of_not_lt (fun h => absurd c2 (nI_ge h (by omega))))]), ht⟩) (fun q h => by cases h) dX8_needed_44
  · have hj : j < J := Nat.lt_of_not_le (fun h => absurd (nI_le h (by omega)) c2)
    refine lv_iload_n hx hb dX8_needed_9 rfl (lv_at hl 2 rfl) ?_
    refine lv_iload_n hx hb dX8_needed_10 rfl (lv_at hl 0 rfl) ?_
    refine lv_iadd hx hb dX8_needed_11 ?_
    refine lv_topi (fun x3 ex3 => ?_)
    refine lv_iconst (v := 3) hx hb dX8_needed_12 (by decide) ?_
    refine lv_isub hx hb dX8_needed_13 ?_
    refine lv_topi (fun x4 ex4 => ?_)
    refine lv_iload_n hx hb dX8_needed_14 rfl (lv_at hl 0 rfl) ?_
    refine lv_iconst (v := 2) hx hb dX8_needed_15 (by decide) ?_
    refine lv_isub hx hb dX8_needed_16 ?_
    refine lv_topi (fun x5 ex5 => ?_)
    refine lv_idiv hx hb dX8_needed_17 (by subst_vars; exact hk) ?_
    refine lv_topi (fun x6 ex6 => ?_)
    refine lv_istore (lv' := [(4, .int x6), (0, .int k), (1, .int (nI J)), (2, .int (nd2 k j)), (3, .int (nI j))]) hx hb dX8_needed_18 hl (by decide) rfl (fun ls hl => ?_)
    refine lv_iload_n hx hb dX8_needed_20 rfl (lv_at hl 3 rfl) ?_
    refine lv_iconst (v := 2) hx hb dX8_needed_21 (by decide) ?_
    refine lv_iload hx hb dX8_needed_22 (lv_at hl 0 rfl) ?_
    refine lv_iconst (v := 1) hx hb dX8_needed_24 (by decide) ?_
    refine lv_icmp_ge (tgt := 32) hx hb dX8_needed_25 (by decide) (fun c7 => ?_) (fun c7 => ?_)
    · refine lv_iload hx hb dX8_needed_32 (lv_at hl 0 rfl) ?_
      refine lv_imul hx hb dX8_needed_34 ?_
      refine lv_topi (fun x8 ex8 => ?_)
      refine lv_iadd hx hb dX8_needed_35 ?_
      refine lv_topi (fun x9 ex9 => ?_)
      obtain rfl : x9 = (nd2 k (j + 1)) := ex9.trans (by subst_vars; show _ = nb2 (nd2 k j) k; rw [nb2, if_neg (Int32.not_lt.mpr c7)] <;> rfl)
      refine lv_istore_n (lv' := [(2, .int (nd2 k (j + 1))), (4, .int x6), (0, .int k), (1, .int (nI J)), (3, .int (nI j))]) hx hb dX8_needed_36 rfl hl (by decide) rfl (fun ls hl => ?_)
      refine lv_iinc (v := (nI (j + 1))) (lv' := [(3, .int (nI (j + 1))), (2, .int (nd2 k (j + 1))), (4, .int x6), (0, .int k), (1, .int (nI J))]) hx hb dX8_needed_37 hl (k := 4) rfl (nI_1 j) (by decide) rfl (fun ls hl => ?_)
      refine lv_goto (tgt := 4) hx hb dX8_needed_40 (by decide) ?_
      exact ih (j + 1) _ _ _ ⟨hj, rfl, rfl, lv_sub hl [3, 4, 1, 0] rfl⟩ (by show J - (j + 1) < J - j; omega)
    · refine lv_iconst (v := 1) hx hb dX8_needed_28 (by decide) ?_
      refine lv_goto (tgt := 34) hx hb dX8_needed_29 (by decide) ?_
      refine lv_imul hx hb dX8_needed_34 ?_
      refine lv_topi (fun x10 ex10 => ?_)
      obtain rfl : x10 = 2 := ex10.trans (by decide)
      refine lv_iadd hx hb dX8_needed_35 ?_
      refine lv_topi (fun x11 ex11 => ?_)
      obtain rfl : x11 = (nd2 k (j + 1)) := ex11.trans (by subst_vars; show _ = nb2 (nd2 k j) k; rw [nb2, if_pos (Int32.not_le.mp c7)] <;> rfl)
      refine lv_istore_n (lv' := [(2, .int (nd2 k (j + 1))), (4, .int x6), (0, .int k), (1, .int (nI J)), (3, .int (nI j))]) hx hb dX8_needed_36 rfl hl (by decide) rfl (fun ls hl => ?_)
      refine lv_iinc (v := (nI (j + 1))) (lv' := [(3, .int (nI (j + 1))), (2, .int (nd2 k (j + 1))), (4, .int x6), (0, .int k), (1, .int (nI J))]) hx hb dX8_needed_37 hl (k := 4) rfl (nI_1 j) (by decide) rfl (fun ls hl => ?_)
      refine lv_goto (tgt := 4) hx hb dX8_needed_40 (by decide) ?_
      exact ih (j + 1) _ _ _ ⟨hj, rfl, rfl, lv_sub hl [3, 4, 1, 0] rfl⟩ (by show J - (j + 1) < J - j; omega)

def vs_m_need : List Cond := [.code yX8_need_ cX8_need_ 3 (some .int), .fieldLink RX8 126 "DepotMarchModel" "code" "I", .code yX8_in cX8_in 3 (some .boolean), .methodLink RX8 140 yX8_in, .static yX8_in, .initialized RX8, .code yX8_needed cX8_needed 5 (some .int), .methodLink RX8 310 yX8_needed, .static yX8_needed] ++ (wsX80)
theorem in_m_need_X8 : ∀ w ∈ u_ws RX8 TX8 48, w ∈ vs_m_need := fun w h => List.mem_append_right _ (h)
set_option maxRecDepth 20000 in
theorem gg_m_need_in : GoodIn vs_m_need vs_in := goodIn_r _ [2] (by decide +kernel) (by decide +kernel)
set_option maxRecDepth 20000 in
theorem gg_m_need_needed : GoodIn vs_m_need vs_needed := goodIn_r _ [6] (by decide +kernel) (by decide +kernel)
set_option maxRecDepth 20000 in
theorem g140_m_need_in : GoodIn vs_m_need (va_wsS RX8 140 yX8_in vs_in) := goodIn_app (goodIn_of _ (by decide +kernel)) gg_m_need_in
set_option maxRecDepth 20000 in
theorem g310_m_need_needed : GoodIn vs_m_need (va_wsS RX8 310 yX8_needed vs_needed) := goodIn_app (goodIn_of _ (by decide +kernel)) gg_m_need_needed
set_option maxHeartbeats 4000000 in
set_option maxRecDepth 100000 in
theorem c_m_need (l : Launch) (dC : Nat → ClassId) (dI : Nat → Nat → Nat) (cI cZ cB cJ cP cW : ClassId) (r : Nat → Nat) (k : Int32) (w : Int32) (sz : Nat) : Met l yX8_need_ vs_m_need ({ frames := 6, cells := 0, slots := 0, locals := 360 }) (va_Pc [.ref (r 0), .int k, .int w] (fun U => U.heap.size = sz ∧ EV dC dI cI cZ cB cJ cP cW U ∧ va_P (dC, dI) vwCl [((r 0), .inr (8, [.int 0, .ref (r 1), .int 0, .ref (r 3), .ref (r 4), .ref (r 5), .ref (r 6), .ref (r 7), .ref (r 8), .ref (r 9), .ref (r 10), .ref (r 11), .ref (r 12), .ref (r 13), .ref (r 14), .ref (r 15), .ref (r 16), .ref (r 17), .ref (r 18), .ref (r 19), .ref (r 20), .ref (r 21), .ref (r 22), .ref (r 23), .ref (r 24), .ref (r 25), .ref (r 26), .ref (r 27), .ref (r 28), .ref (r 29), .int 0, .int 0, .int 0, .int 0, .int 0, .int 0, .int (-1), .int 0, .int 0, .int 0, .int 0, .int 0, .int 0, .ref (r 43), .ref (r 44), .ref (r 45), .int 0, .ref (r 47)]))] U.heap ∧ va_D (fun _ => True) [((r 0), .inr (8, [.int 0, .ref (r 1), .int 0, .ref (r 3), .ref (r 4), .ref (r 5), .ref (r 6), .ref (r 7), .ref (r 8), .ref (r 9), .ref (r 10), .ref (r 11), .ref (r 12), .ref (r 13), .ref (r 14), .ref (r 15), .ref (r 16), .ref (r 17), .ref (r 18), .ref (r 19), .ref (r 20), .ref (r 21), .ref (r 22), .ref (r 23), .ref (r 24), .ref (r 25), .ref (r 26), .ref (r 27), .ref (r 28), .ref (r 29), .int 0, .int 0, .int 0, .int 0, .int 0, .int 0, .int (-1), .int 0, .int 0, .int 0, .int 0, .int 0, .int 0, .ref (r 43), .ref (r 44), .ref (r 45), .int 0, .ref (r 47)]))])) (va_Qi (fun (r : Int32) (u : Unit) => r = if inn k 3 200 = 0 then -1 else if inn w 0 15 = 0 then -1 else nd2 k w.toNatClampNeg) (fun u t => va_P (dC, dI) vwCl [] t.heap ∧ va_D (va_A [((r 0), .inr (8, [.int 0, .ref (r 1), .int 0, .ref (r 3), .ref (r 4), .ref (r 5), .ref (r 6), .ref (r 7), .ref (r 8), .ref (r 9), .ref (r 10), .ref (r 11), .ref (r 12), .ref (r 13), .ref (r 14), .ref (r 15), .ref (r 16), .ref (r 17), .ref (r 18), .ref (r 19), .ref (r 20), .ref (r 21), .ref (r 22), .ref (r 23), .ref (r 24), .ref (r 25), .ref (r 26), .ref (r 27), .ref (r 28), .ref (r 29), .int 0, .int 0, .int 0, .int 0, .int 0, .int 0, .int (-1), .int 0, .int 0, .int 0, .int 0, .int 0, .int 0, .ref (r 43), .ref (r 44), .ref (r 45), .int 0, .ref (r 47)]))] sz) []) (va_A [((r 0), .inr (8, [.int 0, .ref (r 1), .int 0, .ref (r 3), .ref (r 4), .ref (r 5), .ref (r 6), .ref (r 7), .ref (r 8), .ref (r 9), .ref (r 10), .ref (r 11), .ref (r 12), .ref (r 13), .ref (r 14), .ref (r 15), .ref (r 16), .ref (r 17), .ref (r 18), .ref (r 19), .ref (r 20), .ref (r 21), .ref (r 22), .ref (r 23), .ref (r 24), .ref (r 25), .ref (r 26), .ref (r 27), .ref (r 28), .ref (r 29), .int 0, .int 0, .int 0, .int 0, .int 0, .int 0, .int (-1), .int 0, .int 0, .int 0, .int 0, .int 0, .int 0, .ref (r 43), .ref (r 44), .ref (r 45), .int 0, .ref (r 47)]))] sz)) 0 0 (va_A [((r 0), .inr (8, [.int 0, .ref (r 1), .int 0, .ref (r 3), .ref (r 4), .ref (r 5), .ref (r 6), .ref (r 7), .ref (r 8), .ref (r 9), .ref (r 10), .ref (r 11), .ref (r 12), .ref (r 13), .ref (r 14), .ref (r 15), .ref (r 16), .ref (r 17), .ref (r 18), .ref (r 19), .ref (r 20), .ref (r 21), .ref (r 22), .ref (r 23), .ref (r 24), .ref (r 25), .ref (r 26), .ref (r 27), .ref (r 28), .ref (r 29), .int 0, .int 0, .int 0, .int 0, .int 0, .int 0, .int (-1), .int 0, .int 0, .int 0, .int 0, .int 0, .int 0, .ref (r 43), .ref (r 44), .ref (r 45), .int 0, .ref (r 47)]))] sz) := by
  refine Met.ofW (cc := cX8_need_) (maxL := 3) (ret := (some .int)) (by decide) rfl ?_
  intro p e s m args below meth c s₁ B hml hv
  obtain ⟨rfl, hsz, hE, hP, hD0⟩ := hv
  have hx := B.exec
  have hb := B.bytes
  have hr := B.returns
  have hts := atoms_spec (ws := vs_m_need) B.pre
  have hown : s.vm.findClass RX8 = some m.cls := findClass_of_methodNamed B.named
  have hlocks := B.notSynchronized
  have hK := hE.2
  subst hsz
  have hD := hD0.self (sz := s.heap.size)
  generalize hAe : va_A [((r 0), .inr (8, [.int 0, .ref (r 1), .int 0, .ref (r 3), .ref (r 4), .ref (r 5), .ref (r 6), .ref (r 7), .ref (r 8), .ref (r 9), .ref (r 10), .ref (r 11), .ref (r 12), .ref (r 13), .ref (r 14), .ref (r 15), .ref (r 16), .ref (r 17), .ref (r 18), .ref (r 19), .ref (r 20), .ref (r 21), .ref (r 22), .ref (r 23), .ref (r 24), .ref (r 25), .ref (r 26), .ref (r 27), .ref (r 28), .ref (r 29), .int 0, .int 0, .int 0, .int 0, .int 0, .int 0, .int (-1), .int 0, .int 0, .int 0, .int 0, .int 0, .int 0, .ref (r 43), .ref (r 44), .ref (r 45), .int 0, .ref (r 47)]))] s.heap.size = A at hD ⊢
  have hA : ∀ q : Nat, s.heap.size ≤ q → A q := fun q h => by rw [← hAe]; exact Or.inr h
  have hS : va_S A s.heap s.heap [] := va_S.rf
  have hl := lv_entry ([.ref (r 0), .int k, .int w]) (n := 3) (Nat.le_of_ble_eq_true rfl)
  rw [lg_entry_eq]
  generalize (lg_sl ([.ref (r 0), .int k, .int w]) ++ List.replicate (3 - (lg_sl ([.ref (r 0), .int k, .int w])).length) Slot.unset).toArray = ls at hl ⊢
  have hl : lv_has ls 3 [(0, .ref (r 0)), (1, .int k), (2, .int w)] := hl
  refine lv_aload_n hx hb dX8_need__0 rfl (lv_at hl 0 rfl) ?_
  refine lv_iconst (v := 0) hx hb dX8_need__1 (by decide) ?_
  refine va_put (D := (dC, dI)) (ci := 8) (v := .int 0) (ty := .int) (C := RX8) (T := TX8) (N := 48) hx hb hts in_m_need_X8 tyX8 tyX8_ok nmX8 hown hK hP hD hS 0 rfl rfl 0 (by decide) (hts (.fieldLink RX8 126 "DepotMarchModel" "code" "I") (by decide +kernel)) (fun _ h9 => h9) rfl (by decide +kernel) rfl rfl (Nat.le_of_ble_eq_true rfl) dX8_need__2 (fun H1 locs hP hD hS => ?_)
  have hP : va_P (dC, dI) vwCl [((r 0), .inr (8, [.int 0, .ref (r 1), .int 0, .ref (r 3), .ref (r 4), .ref (r 5), .ref (r 6), .ref (r 7), .ref (r 8), .ref (r 9), .ref (r 10), .ref (r 11), .ref (r 12), .ref (r 13), .ref (r 14), .ref (r 15), .ref (r 16), .ref (r 17), .ref (r 18), .ref (r 19), .ref (r 20), .ref (r 21), .ref (r 22), .ref (r 23), .ref (r 24), .ref (r 25), .ref (r 26), .ref (r 27), .ref (r 28), .ref (r 29), .int 0, .int 0, .int 0, .int 0, .int 0, .int 0, .int (-1), .int 0, .int 0, .int 0, .int 0, .int 0, .int 0, .ref (r 43), .ref (r 44), .ref (r 45), .int 0, .ref (r 47)]))] H1 := hP
  have hD : va_D A [((r 0), .inr (8, [.int 0, .ref (r 1), .int 0, .ref (r 3), .ref (r 4), .ref (r 5), .ref (r 6), .ref (r 7), .ref (r 8), .ref (r 9), .ref (r 10), .ref (r 11), .ref (r 12), .ref (r 13), .ref (r 14), .ref (r 15), .ref (r 16), .ref (r 17), .ref (r 18), .ref (r 19), .ref (r 20), .ref (r 21), .ref (r 22), .ref (r 23), .ref (r 24), .ref (r 25), .ref (r 26), .ref (r 27), .ref (r 28), .ref (r 29), .int 0, .int 0, .int 0, .int 0, .int 0, .int 0, .int (-1), .int 0, .int 0, .int 0, .int 0, .int 0, .int 0, .ref (r 43), .ref (r 44), .ref (r 45), .int 0, .ref (r 47)]))] := hD
  refine lv_iload_n hx hb dX8_need__5 rfl (lv_at hl 1 rfl) ?_
  refine lv_iconst (v := 3) hx hb dX8_need__6 (by decide) ?_
  refine lv_sipush (v := 200) hx hb dX8_need__7 (by decide) ?_
  refine vp_callSi (va_Run.run (va_runS (As := [.int k, .int 3, .int 200]) (rest := []) ⟨hx, hb, hml, hown, hts⟩ (c_in l dC dI cI cZ cB cJ cP cW k 3 200) (va_cwS 3 hts g140_m_need_in rfl rfl rfl (by decide +kernel) ⟨Nat.le_of_ble_eq_true rfl, Nat.le_of_ble_eq_true rfl⟩) ⟨fbR, fun U hU hW => ⟨rfl, hE.warm hW, by rw [hU]; exact (fun k q h => by simp at h)⟩⟩ rfl rfl hl.1 rfl (lv_room (Nat.le_of_ble_eq_true rfl)) dX8_need__10 ⟨Nat.le_of_ble_eq_true rfl, Nat.le_of_ble_eq_true rfl⟩)) (fun r2 hr2 => ?_)
  obtain rfl : r2 = (inn k 3 200) := hr2
  refine lv_if_eq (tgt := 34) hx hb dX8_need__13 (by decide) (fun c3 => ?_) (fun c3 => ?_)
  · refine lv_iconst (v := (-1)) hx hb dX8_need__34 (by decide) ?_
    have hP9 := hP.sub (ws' := []) [] rfl
    have hD9 := hD.sub (ws' := []) [] (by decide) rfl
    refine W.widen (k := 0) (n := 0) (by decide) (by decide) ?_
    exact W.iret (v := (-1)) hx hb hr (fun t ht hW => ⟨⟨(-1), (), rfl, (by simp [c3]), by rw [ht]; exact hP9, hD9⟩, hS.F ht⟩) hS.2.2 dX8_need__35
  · refine lv_iload_n hx hb dX8_need__16 rfl (lv_at hl 2 rfl) ?_
    refine lv_iconst (v := 0) hx hb dX8_need__17 (by decide) ?_
    refine lv_bipush (v := 15) hx hb dX8_need__18 (by decide) ?_
    refine vp_callSi (va_Run.run (va_runS (As := [.int w, .int 0, .int 15]) (rest := []) ⟨hx, hb, hml, hown, hts⟩ (c_in l dC dI cI cZ cB cJ cP cW w 0 15) (va_cwS 3 hts g140_m_need_in rfl rfl rfl (by decide +kernel) ⟨Nat.le_of_ble_eq_true rfl, Nat.le_of_ble_eq_true rfl⟩) ⟨fbR, fun U hU hW => ⟨rfl, hE.warm hW, by rw [hU]; exact (fun k q h => by simp at h)⟩⟩ rfl rfl hl.1 rfl (lv_room (Nat.le_of_ble_eq_true rfl)) dX8_need__20 ⟨Nat.le_of_ble_eq_true rfl, Nat.le_of_ble_eq_true rfl⟩)) (fun r4 hr4 => ?_)
    obtain rfl : r4 = (inn w 0 15) := hr4
    refine lv_if_eq (tgt := 34) hx hb dX8_need__23 (by decide) (fun c5 => ?_) (fun c5 => ?_)
    · refine lv_iconst (v := (-1)) hx hb dX8_need__34 (by decide) ?_
      have hP9 := hP.sub (ws' := []) [] rfl
      have hD9 := hD.sub (ws' := []) [] (by decide) rfl
      refine W.widen (k := 0) (n := 0) (by decide) (by decide) ?_
      exact W.iret (v := (-1)) hx hb hr (fun t ht hW => ⟨⟨(-1), (), rfl, (by simp [c3, c5]), by rw [ht]; exact hP9, hD9⟩, hS.F ht⟩) hS.2.2 dX8_need__35
    · obtain ⟨K, hKK, eK⟩ := vp_in_of (inn_in (a := 0) (b := 15) (N := 16) rfl rfl (by decide) c5) (by decide)
      subst eK
      have hl : lv_has ls 3 [(0, .ref (r 0)), (1, .int k), (2, .int (nI K))] := hl
      refine lv_iload_n hx hb dX8_need__26 rfl (lv_at hl 1 rfl) ?_
      refine lv_iload_n hx hb dX8_need__27 rfl (lv_at hl 2 rfl) ?_
      refine vp_callSi (va_Run.run (va_runS (As := [.int k, .int (nI K)]) (rest := []) ⟨hx, hb, hml, hown, hts⟩ ((c_needed l dC dI cI cZ cB cJ cP cW k K) (k2_ne c3) (by omega)) (va_cwS 2 hts g310_m_need_needed rfl rfl rfl (by decide +kernel) ⟨Nat.le_of_ble_eq_true rfl, Nat.le_of_ble_eq_true rfl⟩) ⟨fbR, fun U hU hW => ⟨rfl, hE.warm hW, by rw [hU]; exact (fun k q h => by simp at h)⟩⟩ rfl rfl hl.1 rfl (lv_room (Nat.le_of_ble_eq_true rfl)) dX8_need__28 ⟨Nat.le_of_ble_eq_true rfl, Nat.le_of_ble_eq_true rfl⟩)) (fun r6 hr6 => ?_)
      obtain rfl : r6 = (nd2 k K) := hr6
      refine lv_goto (tgt := 35) hx hb dX8_need__31 (by decide) ?_
      have hP9 := hP.sub (ws' := []) [] rfl
      have hD9 := hD.sub (ws' := []) [] (by decide) rfl
      refine W.widen (k := 0) (n := 0) (by decide) (by decide) ?_
      exact W.iret (v := (nd2 k K)) hx hb hr (fun t ht hW => ⟨⟨(nd2 k K), (), rfl, (by rw [if_neg c3, if_neg c5, nI_clamp (by omega)]), by rw [ht]; exact hP9, hD9⟩, hS.F ht⟩) hS.2.2 dX8_need__35

def vs_m_far : List Cond := [.code yX8_far cX8_far 4 (some .int), .fieldLink RX8 126 "DepotMarchModel" "code" "I", .code yX8_in cX8_in 3 (some .boolean), .methodLink RX8 140 yX8_in, .static yX8_in, .initialized RX8, .constant RX8 313 1000000, .code yX8_needed cX8_needed 5 (some .int), .methodLink RX8 310 yX8_needed, .static yX8_needed] ++ (wsX80)
theorem in_m_far_X8 : ∀ w ∈ u_ws RX8 TX8 48, w ∈ vs_m_far := fun w h => List.mem_append_right _ (h)
set_option maxRecDepth 20000 in
theorem gg_m_far_in : GoodIn vs_m_far vs_in := goodIn_r _ [2] (by decide +kernel) (by decide +kernel)
set_option maxRecDepth 20000 in
theorem gg_m_far_needed : GoodIn vs_m_far vs_needed := goodIn_r _ [7] (by decide +kernel) (by decide +kernel)
set_option maxRecDepth 20000 in
theorem g140_m_far_in : GoodIn vs_m_far (va_wsS RX8 140 yX8_in vs_in) := goodIn_app (goodIn_of _ (by decide +kernel)) gg_m_far_in
set_option maxRecDepth 20000 in
theorem g310_m_far_needed : GoodIn vs_m_far (va_wsS RX8 310 yX8_needed vs_needed) := goodIn_app (goodIn_of _ (by decide +kernel)) gg_m_far_needed
set_option maxHeartbeats 4000000 in
set_option maxRecDepth 100000 in
theorem c_m_far (l : Launch) (dC : Nat → ClassId) (dI : Nat → Nat → Nat) (cI cZ cB cJ cP cW : ClassId) (r : Nat → Nat) (k : Int32) (w : Int32) (sz : Nat) : Met l yX8_far vs_m_far ({ frames := 6, cells := 0, slots := 0, locals := 360 }) (va_Pc [.ref (r 0), .int k, .int w] (fun U => U.heap.size = sz ∧ EV dC dI cI cZ cB cJ cP cW U ∧ va_P (dC, dI) vwCl [((r 0), .inr (8, [.int 0, .ref (r 1), .int 0, .ref (r 3), .ref (r 4), .ref (r 5), .ref (r 6), .ref (r 7), .ref (r 8), .ref (r 9), .ref (r 10), .ref (r 11), .ref (r 12), .ref (r 13), .ref (r 14), .ref (r 15), .ref (r 16), .ref (r 17), .ref (r 18), .ref (r 19), .ref (r 20), .ref (r 21), .ref (r 22), .ref (r 23), .ref (r 24), .ref (r 25), .ref (r 26), .ref (r 27), .ref (r 28), .ref (r 29), .int 0, .int 0, .int 0, .int 0, .int 0, .int 0, .int (-1), .int 0, .int 0, .int 0, .int 0, .int 0, .int 0, .ref (r 43), .ref (r 44), .ref (r 45), .int 0, .ref (r 47)]))] U.heap ∧ va_D (fun _ => True) [((r 0), .inr (8, [.int 0, .ref (r 1), .int 0, .ref (r 3), .ref (r 4), .ref (r 5), .ref (r 6), .ref (r 7), .ref (r 8), .ref (r 9), .ref (r 10), .ref (r 11), .ref (r 12), .ref (r 13), .ref (r 14), .ref (r 15), .ref (r 16), .ref (r 17), .ref (r 18), .ref (r 19), .ref (r 20), .ref (r 21), .ref (r 22), .ref (r 23), .ref (r 24), .ref (r 25), .ref (r 26), .ref (r 27), .ref (r 28), .ref (r 29), .int 0, .int 0, .int 0, .int 0, .int 0, .int 0, .int (-1), .int 0, .int 0, .int 0, .int 0, .int 0, .int 0, .ref (r 43), .ref (r 44), .ref (r 45), .int 0, .ref (r 47)]))])) (va_Qi (fun (r : Int32) (u : Unit) => r = if inn k 3 200 = 0 then -1 else if inn w 0 1000000 = 0 then -1 else fr2 k w 15 0) (fun u t => va_P (dC, dI) vwCl [] t.heap ∧ va_D (va_A [((r 0), .inr (8, [.int 0, .ref (r 1), .int 0, .ref (r 3), .ref (r 4), .ref (r 5), .ref (r 6), .ref (r 7), .ref (r 8), .ref (r 9), .ref (r 10), .ref (r 11), .ref (r 12), .ref (r 13), .ref (r 14), .ref (r 15), .ref (r 16), .ref (r 17), .ref (r 18), .ref (r 19), .ref (r 20), .ref (r 21), .ref (r 22), .ref (r 23), .ref (r 24), .ref (r 25), .ref (r 26), .ref (r 27), .ref (r 28), .ref (r 29), .int 0, .int 0, .int 0, .int 0, .int 0, .int 0, .int (-1), .int 0, .int 0, .int 0, .int 0, .int 0, .int 0, .ref (r 43), .ref (r 44), .ref (r 45), .int 0, .ref (r 47)]))] sz) []) (va_A [((r 0), .inr (8, [.int 0, .ref (r 1), .int 0, .ref (r 3), .ref (r 4), .ref (r 5), .ref (r 6), .ref (r 7), .ref (r 8), .ref (r 9), .ref (r 10), .ref (r 11), .ref (r 12), .ref (r 13), .ref (r 14), .ref (r 15), .ref (r 16), .ref (r 17), .ref (r 18), .ref (r 19), .ref (r 20), .ref (r 21), .ref (r 22), .ref (r 23), .ref (r 24), .ref (r 25), .ref (r 26), .ref (r 27), .ref (r 28), .ref (r 29), .int 0, .int 0, .int 0, .int 0, .int 0, .int 0, .int (-1), .int 0, .int 0, .int 0, .int 0, .int 0, .int 0, .ref (r 43), .ref (r 44), .ref (r 45), .int 0, .ref (r 47)]))] sz)) 0 0 (va_A [((r 0), .inr (8, [.int 0, .ref (r 1), .int 0, .ref (r 3), .ref (r 4), .ref (r 5), .ref (r 6), .ref (r 7), .ref (r 8), .ref (r 9), .ref (r 10), .ref (r 11), .ref (r 12), .ref (r 13), .ref (r 14), .ref (r 15), .ref (r 16), .ref (r 17), .ref (r 18), .ref (r 19), .ref (r 20), .ref (r 21), .ref (r 22), .ref (r 23), .ref (r 24), .ref (r 25), .ref (r 26), .ref (r 27), .ref (r 28), .ref (r 29), .int 0, .int 0, .int 0, .int 0, .int 0, .int 0, .int (-1), .int 0, .int 0, .int 0, .int 0, .int 0, .int 0, .ref (r 43), .ref (r 44), .ref (r 45), .int 0, .ref (r 47)]))] sz) := by
  refine Met.ofW (cc := cX8_far) (maxL := 4) (ret := (some .int)) (by decide) rfl ?_
  intro p e s m args below meth c s₁ B hml hv
  obtain ⟨rfl, hsz, hE, hP, hD0⟩ := hv
  have hx := B.exec
  have hb := B.bytes
  have hr := B.returns
  have hts := atoms_spec (ws := vs_m_far) B.pre
  have hown : s.vm.findClass RX8 = some m.cls := findClass_of_methodNamed B.named
  have hlocks := B.notSynchronized
  have hK := hE.2
  subst hsz
  have hD := hD0.self (sz := s.heap.size)
  generalize hAe : va_A [((r 0), .inr (8, [.int 0, .ref (r 1), .int 0, .ref (r 3), .ref (r 4), .ref (r 5), .ref (r 6), .ref (r 7), .ref (r 8), .ref (r 9), .ref (r 10), .ref (r 11), .ref (r 12), .ref (r 13), .ref (r 14), .ref (r 15), .ref (r 16), .ref (r 17), .ref (r 18), .ref (r 19), .ref (r 20), .ref (r 21), .ref (r 22), .ref (r 23), .ref (r 24), .ref (r 25), .ref (r 26), .ref (r 27), .ref (r 28), .ref (r 29), .int 0, .int 0, .int 0, .int 0, .int 0, .int 0, .int (-1), .int 0, .int 0, .int 0, .int 0, .int 0, .int 0, .ref (r 43), .ref (r 44), .ref (r 45), .int 0, .ref (r 47)]))] s.heap.size = A at hD ⊢
  have hA : ∀ q : Nat, s.heap.size ≤ q → A q := fun q h => by rw [← hAe]; exact Or.inr h
  have hS : va_S A s.heap s.heap [] := va_S.rf
  have hl := lv_entry ([.ref (r 0), .int k, .int w]) (n := 4) (Nat.le_of_ble_eq_true rfl)
  rw [lg_entry_eq]
  generalize (lg_sl ([.ref (r 0), .int k, .int w]) ++ List.replicate (4 - (lg_sl ([.ref (r 0), .int k, .int w])).length) Slot.unset).toArray = ls at hl ⊢
  have hl : lv_has ls 4 [(0, .ref (r 0)), (1, .int k), (2, .int w)] := hl
  refine lv_aload_n hx hb dX8_far_0 rfl (lv_at hl 0 rfl) ?_
  refine lv_iconst (v := 0) hx hb dX8_far_1 (by decide) ?_
  refine va_put (D := (dC, dI)) (ci := 8) (v := .int 0) (ty := .int) (C := RX8) (T := TX8) (N := 48) hx hb hts in_m_far_X8 tyX8 tyX8_ok nmX8 hown hK hP hD hS 0 rfl rfl 0 (by decide) (hts (.fieldLink RX8 126 "DepotMarchModel" "code" "I") (by decide +kernel)) (fun _ h9 => h9) rfl (by decide +kernel) rfl rfl (Nat.le_of_ble_eq_true rfl) dX8_far_2 (fun H1 locs hP hD hS => ?_)
  have hP : va_P (dC, dI) vwCl [((r 0), .inr (8, [.int 0, .ref (r 1), .int 0, .ref (r 3), .ref (r 4), .ref (r 5), .ref (r 6), .ref (r 7), .ref (r 8), .ref (r 9), .ref (r 10), .ref (r 11), .ref (r 12), .ref (r 13), .ref (r 14), .ref (r 15), .ref (r 16), .ref (r 17), .ref (r 18), .ref (r 19), .ref (r 20), .ref (r 21), .ref (r 22), .ref (r 23), .ref (r 24), .ref (r 25), .ref (r 26), .ref (r 27), .ref (r 28), .ref (r 29), .int 0, .int 0, .int 0, .int 0, .int 0, .int 0, .int (-1), .int 0, .int 0, .int 0, .int 0, .int 0, .int 0, .ref (r 43), .ref (r 44), .ref (r 45), .int 0, .ref (r 47)]))] H1 := hP
  have hD : va_D A [((r 0), .inr (8, [.int 0, .ref (r 1), .int 0, .ref (r 3), .ref (r 4), .ref (r 5), .ref (r 6), .ref (r 7), .ref (r 8), .ref (r 9), .ref (r 10), .ref (r 11), .ref (r 12), .ref (r 13), .ref (r 14), .ref (r 15), .ref (r 16), .ref (r 17), .ref (r 18), .ref (r 19), .ref (r 20), .ref (r 21), .ref (r 22), .ref (r 23), .ref (r 24), .ref (r 25), .ref (r 26), .ref (r 27), .ref (r 28), .ref (r 29), .int 0, .int 0, .int 0, .int 0, .int 0, .int 0, .int (-1), .int 0, .int 0, .int 0, .int 0, .int 0, .int 0, .ref (r 43), .ref (r 44), .ref (r 45), .int 0, .ref (r 47)]))] := hD
  refine lv_iload_n hx hb dX8_far_5 rfl (lv_at hl 1 rfl) ?_
  refine lv_iconst (v := 3) hx hb dX8_far_6 (by decide) ?_
  refine lv_sipush (v := 200) hx hb dX8_far_7 (by decide) ?_
  refine vp_callSi (va_Run.run (va_runS (As := [.int k, .int 3, .int 200]) (rest := []) ⟨hx, hb, hml, hown, hts⟩ (c_in l dC dI cI cZ cB cJ cP cW k 3 200) (va_cwS 3 hts g140_m_far_in rfl rfl rfl (by decide +kernel) ⟨Nat.le_of_ble_eq_true rfl, Nat.le_of_ble_eq_true rfl⟩) ⟨fbR, fun U hU hW => ⟨rfl, hE.warm hW, by rw [hU]; exact (fun k q h => by simp at h)⟩⟩ rfl rfl hl.1 rfl (lv_room (Nat.le_of_ble_eq_true rfl)) dX8_far_10 ⟨Nat.le_of_ble_eq_true rfl, Nat.le_of_ble_eq_true rfl⟩)) (fun r2 hr2 => ?_)
  obtain rfl : r2 = (inn k 3 200) := hr2
  refine lv_if_eq (tgt := 27) hx hb dX8_far_13 (by decide) (fun c3 => ?_) (fun c3 => ?_)
  · refine lv_iconst (v := (-1)) hx hb dX8_far_27 (by decide) ?_
    have hP9 := hP.sub (ws' := []) [] rfl
    have hD9 := hD.sub (ws' := []) [] (by decide) rfl
    refine W.widen (k := 0) (n := 0) (by decide) (by decide) ?_
    exact W.iret (v := (-1)) hx hb hr (fun t ht hW => ⟨⟨(-1), (), rfl, (by simp [c3]), by rw [ht]; exact hP9, hD9⟩, hS.F ht⟩) hS.2.2 dX8_far_28
  · refine lv_iload_n hx hb dX8_far_16 rfl (lv_at hl 2 rfl) ?_
    refine lv_iconst (v := 0) hx hb dX8_far_17 (by decide) ?_
    refine lv_ldcw (v := 1000000) hx hb hown (hts (.constant RX8 313 1000000) (by decide +kernel)) dX8_far_18 ?_
    refine vp_callSi (va_Run.run (va_runS (As := [.int w, .int 0, .int 1000000]) (rest := []) ⟨hx, hb, hml, hown, hts⟩ (c_in l dC dI cI cZ cB cJ cP cW w 0 1000000) (va_cwS 3 hts g140_m_far_in rfl rfl rfl (by decide +kernel) ⟨Nat.le_of_ble_eq_true rfl, Nat.le_of_ble_eq_true rfl⟩) ⟨fbR, fun U hU hW => ⟨rfl, hE.warm hW, by rw [hU]; exact (fun k q h => by simp at h)⟩⟩ rfl rfl hl.1 rfl (lv_room (Nat.le_of_ble_eq_true rfl)) dX8_far_21 ⟨Nat.le_of_ble_eq_true rfl, Nat.le_of_ble_eq_true rfl⟩)) (fun r4 hr4 => ?_)
    obtain rfl : r4 = (inn w 0 1000000) := hr4
    refine lv_if_ne (tgt := 29) hx hb dX8_far_24 (by decide) (fun c5 => ?_) (fun c5 => ?_)
    · refine lv_iconst (v := 0) hx hb dX8_far_29 (by decide) ?_
      refine lv_istore_n (lv' := [(3, .int 0), (0, .ref (r 0)), (1, .int k), (2, .int w)]) hx hb dX8_far_30 rfl hl (by decide) rfl (fun ls hl => ?_)
      have hl := lv_sub hl [1, 2, 3, 0] rfl
      refine W_loop (σ := Nat × Nat) (fun x9 => match x9 with | (n, j) => n) (fun x9 H6 locs ls => match x9 with | (n, j) => (j + n = 15 ∧ fr2 k w n j = fr2 k w 15 0) ∧ va_P (dC, dI) vwCl [((r 0), .inr (8, [.int 0, .ref (r 1), .int 0, .ref (r 3), .ref (r 4), .ref (r 5), .ref (r 6), .ref (r 7), .ref (r 8), .ref (r 9), .ref (r 10), .ref (r 11), .ref (r 12), .ref (r 13), .ref (r 14), .ref (r 15), .ref (r 16), .ref (r 17), .ref (r 18), .ref (r 19), .ref (r 20), .ref (r 21), .ref (r 22), .ref (r 23), .ref (r 24), .ref (r 25), .ref (r 26), .ref (r 27), .ref (r 28), .ref (r 29), .int 0, .int 0, .int 0, .int 0, .int 0, .int 0, .int (-1), .int 0, .int 0, .int 0, .int 0, .int 0, .int 0, .ref (r 43), .ref (r 44), .ref (r 45), .int 0, .ref (r 47)]))] H6 ∧ va_D A [((r 0), .inr (8, [.int 0, .ref (r 1), .int 0, .ref (r 3), .ref (r 4), .ref (r 5), .ref (r 6), .ref (r 7), .ref (r 8), .ref (r 9), .ref (r 10), .ref (r 11), .ref (r 12), .ref (r 13), .ref (r 14), .ref (r 15), .ref (r 16), .ref (r 17), .ref (r 18), .ref (r 19), .ref (r 20), .ref (r 21), .ref (r 22), .ref (r 23), .ref (r 24), .ref (r 25), .ref (r 26), .ref (r 27), .ref (r 28), .ref (r 29), .int 0, .int 0, .int 0, .int 0, .int 0, .int 0, .int (-1), .int 0, .int 0, .int 0, .int 0, .int 0, .int 0, .ref (r 43), .ref (r 44), .ref (r 45), .int 0, .ref (r 47)]))] ∧ va_S A s.heap H6 locs ∧ lv_has ls 4 [(0, .ref (r 0)), (1, .int k), (2, .int w), (3, .int (nI j))]) (fun x9 H6 locs ls hI9 ih => ?_) (15, 0) _ _ _ ⟨⟨rfl, rfl⟩, hP.sub [0] rfl, hD.sub [0] (by decide) rfl, hS, hl⟩
      obtain ⟨n, j⟩ := x9
      dsimp only at hI9
      obtain ⟨hinv, hP, hD, hS, hl⟩ := hI9
      refine lv_iload_n hx hb dX8_far_31 rfl (lv_at hl 3 rfl) ?_
      refine lv_iconst (v := 1) hx hb dX8_far_32 (by decide) ?_
      refine lv_iadd hx hb dX8_far_33 ?_
      refine lv_topi (fun x7 ex7 => ?_)
      obtain rfl : x7 = (nI (j + 1)) := ex7.trans (nI_1 j)
      refine lv_bipush (v := 16) hx hb dX8_far_34 (by decide) ?_
      refine lv_icmp_ge (tgt := 56) hx hb dX8_far_36 (by decide) (fun c8 => ?_) (fun c8 => ?_)
      · refine lv_iload_n hx hb dX8_far_56 rfl (lv_at hl 3 rfl) ?_
        have hP9 := hP.sub (ws' := []) [] rfl
        have hD9 := hD.sub (ws' := []) [] (by decide) rfl
        refine W.widen (k := 0) (n := 0) (by decide) (by decide) ?_
        exact W.iret (v := (nI j)) hx hb hr (fun t ht hW => ⟨⟨(nI j), (), rfl, (by rw [if_neg c3, if_neg c5, ← hinv.2]; have h9 : n = 0 := Nat.eq_zero_of_not_pos (fun h => absurd c8 (nI_ge (a := j + 1) (b := 16) (by omega) (by omega))); rw [h9, fr2]), by rw [ht]; exact hP9, hD9⟩, hS.F ht⟩) hS.2.2 dX8_far_57
      · obtain ⟨n1, en1⟩ : ∃ n1, n = n1 + 1 := ⟨n - 1, by have := c8; have h9 : ¬ 16 ≤ j + 1 := fun h => absurd (nI_le (a := 16) h (by omega)) this; omega⟩
        refine lv_iload_n hx hb dX8_far_39 rfl (lv_at hl 1 rfl) ?_
        refine lv_iload_n hx hb dX8_far_40 rfl (lv_at hl 3 rfl) ?_
        refine lv_iconst (v := 1) hx hb dX8_far_41 (by decide) ?_
        refine lv_iadd hx hb dX8_far_42 ?_
        refine lv_topi (fun x9 ex9 => ?_)
        obtain rfl : x9 = (nI (j + 1)) := ex9.trans (nI_1 j)
        refine vp_callSi (va_Run.run (va_runS (As := [.int k, .int (nI (j + 1))]) (rest := []) ⟨hx, hb, hml, hown, hts⟩ ((c_needed l dC dI cI cZ cB cJ cP cW k (j + 1)) (k2_ne c3) (by omega)) (va_cwS 2 hts g310_m_far_needed rfl rfl rfl (by decide +kernel) ⟨Nat.le_of_ble_eq_true rfl, Nat.le_of_ble_eq_true rfl⟩) ⟨fbR, fun U hU hW => ⟨rfl, hE.warm hW, by rw [hU]; exact (fun k q h => by simp at h)⟩⟩ rfl rfl hl.1 rfl (lv_room (Nat.le_of_ble_eq_true rfl)) dX8_far_43 ⟨Nat.le_of_ble_eq_true rfl, Nat.le_of_ble_eq_true rfl⟩)) (fun r10 hr10 => ?_)
        obtain rfl : r10 = (nd2 k (j + 1)) := hr10
        refine lv_iload_n hx hb dX8_far_46 rfl (lv_at hl 2 rfl) ?_
        refine lv_icmp_gt (tgt := 56) hx hb dX8_far_47 (by decide) (fun c11 => ?_) (fun c11 => ?_)
        · refine lv_iload_n hx hb dX8_far_56 rfl (lv_at hl 3 rfl) ?_
          have hP9 := hP.sub (ws' := []) [] rfl
          have hD9 := hD.sub (ws' := []) [] (by decide) rfl
          refine W.widen (k := 0) (n := 0) (by decide) (by decide) ?_
          exact W.iret (v := (nI j)) hx hb hr (fun t ht hW => ⟨⟨(nI j), (), rfl, (by rw [if_neg c3, if_neg c5, ← hinv.2]; rw [en1, fr2, if_pos c11]), by rw [ht]; exact hP9, hD9⟩, hS.F ht⟩) hS.2.2 dX8_far_57
        · have hfr : fr2 k w (n - 1) (j + 1) = fr2 k w 15 0 := by rw [← hinv.2, en1]; show fr2 k w n1 (j + 1) = fr2 k w (n1 + 1) j; rw [fr2, if_neg c11]
          refine lv_iinc (v := (nI (j + 1))) (lv' := [(3, .int (nI (j + 1))), (0, .ref (r 0)), (1, .int k), (2, .int w)]) hx hb dX8_far_50 hl (k := 3) rfl (nI_1 j) (by decide) rfl (fun ls hl => ?_)
          refine lv_goto (tgt := 31) hx hb dX8_far_53 (by decide) ?_
          exact ih (n - 1, j + 1) _ _ _ ⟨⟨by omega, hfr⟩, hP.sub [0] rfl, hD.sub [0] (by decide) rfl, hS, lv_sub hl [1, 2, 3, 0] rfl⟩ (by show n - 1 < n; omega)
    · refine lv_iconst (v := (-1)) hx hb dX8_far_27 (by decide) ?_
      have hP9 := hP.sub (ws' := []) [] rfl
      have hD9 := hD.sub (ws' := []) [] (by decide) rfl
      refine W.widen (k := 0) (n := 0) (by decide) (by decide) ?_
      exact W.iret (v := (-1)) hx hb hr (fun t ht hW => ⟨⟨(-1), (), rfl, (by simp [c3, c5]), by rw [ht]; exact hP9, hD9⟩, hS.F ht⟩) hS.2.2 dX8_far_28

def vs_m_image : List Cond := [.code yX8_image cX8_image 2 (some .boolean), .fieldLink RX8 126 "DepotMarchModel" "code" "I", .code yX8_in cX8_in 3 (some .boolean), .methodLink RX8 140 yX8_in, .static yX8_in, .initialized RX8, .code yX8_copy cX8_copy 5 none, .fieldLink RX8 25 "DepotMarchModel" "rations" "[I", .code yX8_moveInts cX8_moveInts 5 none, .methodLink RX8 129 yX8_moveInts, .static yX8_moveInts, .fieldLink RX8 28 "DepotMarchModel" "lots" "[I", .fieldLink RX8 31 "DepotMarchModel" "lotSize" "[I", .fieldLink RX8 34 "DepotMarchModel" "first" "[I", .fieldLink RX8 37 "DepotMarchModel" "latest" "[I", .fieldLink RX8 40 "DepotMarchModel" "count" "[I", .fieldLink RX8 43 "DepotMarchModel" "eaten" "[I", .fieldLink RX8 46 "DepotMarchModel" "day" "[I", .fieldLink RX8 53 "DepotMarchModel" "letter" "[I", .fieldLink RX8 56 "DepotMarchModel" "parties" "[I", .fieldLink RX8 59 "DepotMarchModel" "men" "[I", .fieldLink RX8 62 "DepotMarchModel" "carry" "[I", .fieldLink RX8 65 "DepotMarchModel" "campOf" "[I", .fieldLink RX8 68 "DepotMarchModel" "hunger" "[I", .fieldLink RX8 71 "DepotMarchModel" "rested" "[I", .fieldLink RX8 74 "DepotMarchModel" "counted" "[I", .fieldLink RX8 77 "DepotMarchModel" "at" "[I", .fieldLink RX8 80 "DepotMarchModel" "steps" "[I", .fieldLink RX8 83 "DepotMarchModel" "names" "[I", .fieldLink RX8 92 "DepotMarchModel" "lines" "[I", .fieldLink RX8 95 "DepotMarchModel" "book" "[I", .fieldLink RX8 86 "DepotMarchModel" "op" "[B", .fieldLink RX8 89 "DepotMarchModel" "val" "[I", .fieldLink RX8 49 "DepotMarchModel" "storms" "[Z", .methodLink RX8 295 yX8_copy, .instanceMethod yX8_copy, .selects RX8 yX8_copy yX8_copy, .fieldLink RX8 111 "DepotMarchModel" "has" "[Z"] ++ (wsX80)
theorem in_m_image_X8 : ∀ w ∈ u_ws RX8 TX8 48, w ∈ vs_m_image := fun w h => List.mem_append_right _ (h)
set_option maxRecDepth 20000 in
theorem gg_m_image_in : GoodIn vs_m_image vs_in := goodIn_r _ [2] (by decide +kernel) (by decide +kernel)
set_option maxRecDepth 20000 in
theorem gg_m_image_m_copy : GoodIn vs_m_image vs_m_copy := goodIn_r _ [6, 7, 8, 9, 10, 5, 11, 12, 13, 14, 15, 16, 17, 18, 19, 20, 21, 22, 23, 24, 25, 26, 27, 28, 29, 30, 31, 32, 33, 38, 39, 40, 41, 42, 43, 44, 45, 46, 47, 48, 49, 50, 51, 52, 53, 54, 55, 56, 57, 58, 59, 60, 61, 62, 63, 64, 65, 66, 67, 68, 69, 70, 71, 72, 73, 74, 75, 76, 77, 78, 79, 80, 81, 82, 83, 84, 85] (by decide +kernel) (by decide +kernel)
set_option maxRecDepth 20000 in
theorem g140_m_image_in : GoodIn vs_m_image (va_wsS RX8 140 yX8_in vs_in) := goodIn_app (goodIn_of _ (by decide +kernel)) gg_m_image_in
set_option maxRecDepth 20000 in
theorem g295_m_image_m_copy : GoodIn vs_m_image (wsV RX8 295 RX8 yX8_copy vs_m_copy) := goodIn_app (goodIn_of _ (by decide +kernel)) gg_m_image_m_copy
set_option maxHeartbeats 4000000 in
set_option maxRecDepth 100000 in
theorem c_m_image (l : Launch) (dC : Nat → ClassId) (dI : Nat → Nat → Nat) (cI cZ cB cJ cP cW : ClassId) (r : Nat → Nat) (k : Int32) (sz : Nat) : Met l yX8_image vs_m_image ({ frames := 6, cells := 0, slots := 0, locals := 360 }) (va_Pc [.ref (r 0), .int k] (fun U => U.heap.size = sz ∧ EV dC dI cI cZ cB cJ cP cW U ∧ va_P (dC, dI) vwCl [((r 0), .inr (8, [.int 0, .ref (r 1), .int 0, .ref (r 3), .ref (r 4), .ref (r 5), .ref (r 6), .ref (r 7), .ref (r 8), .ref (r 9), .ref (r 10), .ref (r 11), .ref (r 12), .ref (r 13), .ref (r 14), .ref (r 15), .ref (r 16), .ref (r 17), .ref (r 18), .ref (r 19), .ref (r 20), .ref (r 21), .ref (r 22), .ref (r 23), .ref (r 24), .ref (r 25), .ref (r 26), .ref (r 27), .ref (r 28), .ref (r 29), .int 0, .int 0, .int 0, .int 0, .int 0, .int 0, .int (-1), .int 0, .int 0, .int 0, .int 0, .int 0, .int 0, .ref (r 43), .ref (r 44), .ref (r 45), .int 0, .ref (r 47)])), ((r 47), .inl (cZ, 3, .inl (fun _ => 0))), ((r 14), .inl (cZ, 2000, .inl (fun _ => 0))), ((r 6), .inl (cI, 5, .inl (fun _ => 0))), ((r 7), .inl (cI, 5, .inl (fun _ => 0))), ((r 8), .inl (cI, 100, .inl (fun _ => 0))), ((r 9), .inl (cI, 110, .inl (mk1 22))), ((r 10), .inl (cI, 110, .inl (mk1 22))), ((r 11), .inl (cI, 110, .inl (fun _ => 0))), ((r 12), .inl (cI, 600, .inl (fun _ => 0))), ((r 13), .inl (cI, 5, .inl (fun _ => 0))), ((r 15), .inl (cI, 80, .inl (mk1 16))), ((r 16), .inl (cI, 5, .inl (fun _ => 0))), ((r 17), .inl (cI, 30, .inl (fun _ => 0))), ((r 18), .inl (cI, 30, .inl (fun _ => 0))), ((r 19), .inl (cI, 30, .inl (fun _ => 0))), ((r 20), .inl (cI, 30, .inl (fun _ => 0))), ((r 21), .inl (cI, 30, .inl (fun _ => 0))), ((r 22), .inl (cI, 30, .inl (fun _ => 0))), ((r 23), .inl (cI, 30, .inl (fun _ => 0))), ((r 24), .inl (cI, 30, .inl (fun _ => 0))), ((r 25), .inl (cI, 780, .inl (fun _ => 0))), ((r 28), .inl (cI, 5, .inl (fun _ => 0))), ((r 29), .inl (cI, 18000, .inl (fun _ => 0))), ((r 26), .inl (cB, 27000, .inl (fun _ => 0))), ((r 27), .inl (cI, 27000, .inl (fun _ => 0)))] U.heap ∧ va_D (fun _ => True) [((r 0), .inr (8, [.int 0, .ref (r 1), .int 0, .ref (r 3), .ref (r 4), .ref (r 5), .ref (r 6), .ref (r 7), .ref (r 8), .ref (r 9), .ref (r 10), .ref (r 11), .ref (r 12), .ref (r 13), .ref (r 14), .ref (r 15), .ref (r 16), .ref (r 17), .ref (r 18), .ref (r 19), .ref (r 20), .ref (r 21), .ref (r 22), .ref (r 23), .ref (r 24), .ref (r 25), .ref (r 26), .ref (r 27), .ref (r 28), .ref (r 29), .int 0, .int 0, .int 0, .int 0, .int 0, .int 0, .int (-1), .int 0, .int 0, .int 0, .int 0, .int 0, .int 0, .ref (r 43), .ref (r 44), .ref (r 45), .int 0, .ref (r 47)])), ((r 47), .inl (cZ, 3, .inl (fun _ => 0))), ((r 14), .inl (cZ, 2000, .inl (fun _ => 0))), ((r 6), .inl (cI, 5, .inl (fun _ => 0))), ((r 7), .inl (cI, 5, .inl (fun _ => 0))), ((r 8), .inl (cI, 100, .inl (fun _ => 0))), ((r 9), .inl (cI, 110, .inl (mk1 22))), ((r 10), .inl (cI, 110, .inl (mk1 22))), ((r 11), .inl (cI, 110, .inl (fun _ => 0))), ((r 12), .inl (cI, 600, .inl (fun _ => 0))), ((r 13), .inl (cI, 5, .inl (fun _ => 0))), ((r 15), .inl (cI, 80, .inl (mk1 16))), ((r 16), .inl (cI, 5, .inl (fun _ => 0))), ((r 17), .inl (cI, 30, .inl (fun _ => 0))), ((r 18), .inl (cI, 30, .inl (fun _ => 0))), ((r 19), .inl (cI, 30, .inl (fun _ => 0))), ((r 20), .inl (cI, 30, .inl (fun _ => 0))), ((r 21), .inl (cI, 30, .inl (fun _ => 0))), ((r 22), .inl (cI, 30, .inl (fun _ => 0))), ((r 23), .inl (cI, 30, .inl (fun _ => 0))), ((r 24), .inl (cI, 30, .inl (fun _ => 0))), ((r 25), .inl (cI, 780, .inl (fun _ => 0))), ((r 28), .inl (cI, 5, .inl (fun _ => 0))), ((r 29), .inl (cI, 18000, .inl (fun _ => 0))), ((r 26), .inl (cB, 27000, .inl (fun _ => 0))), ((r 27), .inl (cI, 27000, .inl (fun _ => 0)))])) (va_Qi (fun (r : Int32) (u : Unit) => r = if inn k 0 2 = 0 then 0 else 1) (fun u t => va_P (dC, dI) vwCl [] t.heap ∧ va_D (va_A [((r 0), .inr (8, [.int 0, .ref (r 1), .int 0, .ref (r 3), .ref (r 4), .ref (r 5), .ref (r 6), .ref (r 7), .ref (r 8), .ref (r 9), .ref (r 10), .ref (r 11), .ref (r 12), .ref (r 13), .ref (r 14), .ref (r 15), .ref (r 16), .ref (r 17), .ref (r 18), .ref (r 19), .ref (r 20), .ref (r 21), .ref (r 22), .ref (r 23), .ref (r 24), .ref (r 25), .ref (r 26), .ref (r 27), .ref (r 28), .ref (r 29), .int 0, .int 0, .int 0, .int 0, .int 0, .int 0, .int (-1), .int 0, .int 0, .int 0, .int 0, .int 0, .int 0, .ref (r 43), .ref (r 44), .ref (r 45), .int 0, .ref (r 47)])), ((r 47), .inl (cZ, 3, .inl (fun _ => 0))), ((r 14), .inl (cZ, 2000, .inl (fun _ => 0))), ((r 6), .inl (cI, 5, .inl (fun _ => 0))), ((r 7), .inl (cI, 5, .inl (fun _ => 0))), ((r 8), .inl (cI, 100, .inl (fun _ => 0))), ((r 9), .inl (cI, 110, .inl (mk1 22))), ((r 10), .inl (cI, 110, .inl (mk1 22))), ((r 11), .inl (cI, 110, .inl (fun _ => 0))), ((r 12), .inl (cI, 600, .inl (fun _ => 0))), ((r 13), .inl (cI, 5, .inl (fun _ => 0))), ((r 15), .inl (cI, 80, .inl (mk1 16))), ((r 16), .inl (cI, 5, .inl (fun _ => 0))), ((r 17), .inl (cI, 30, .inl (fun _ => 0))), ((r 18), .inl (cI, 30, .inl (fun _ => 0))), ((r 19), .inl (cI, 30, .inl (fun _ => 0))), ((r 20), .inl (cI, 30, .inl (fun _ => 0))), ((r 21), .inl (cI, 30, .inl (fun _ => 0))), ((r 22), .inl (cI, 30, .inl (fun _ => 0))), ((r 23), .inl (cI, 30, .inl (fun _ => 0))), ((r 24), .inl (cI, 30, .inl (fun _ => 0))), ((r 25), .inl (cI, 780, .inl (fun _ => 0))), ((r 28), .inl (cI, 5, .inl (fun _ => 0))), ((r 29), .inl (cI, 18000, .inl (fun _ => 0))), ((r 26), .inl (cB, 27000, .inl (fun _ => 0))), ((r 27), .inl (cI, 27000, .inl (fun _ => 0)))] sz) []) (va_A [((r 0), .inr (8, [.int 0, .ref (r 1), .int 0, .ref (r 3), .ref (r 4), .ref (r 5), .ref (r 6), .ref (r 7), .ref (r 8), .ref (r 9), .ref (r 10), .ref (r 11), .ref (r 12), .ref (r 13), .ref (r 14), .ref (r 15), .ref (r 16), .ref (r 17), .ref (r 18), .ref (r 19), .ref (r 20), .ref (r 21), .ref (r 22), .ref (r 23), .ref (r 24), .ref (r 25), .ref (r 26), .ref (r 27), .ref (r 28), .ref (r 29), .int 0, .int 0, .int 0, .int 0, .int 0, .int 0, .int (-1), .int 0, .int 0, .int 0, .int 0, .int 0, .int 0, .ref (r 43), .ref (r 44), .ref (r 45), .int 0, .ref (r 47)])), ((r 47), .inl (cZ, 3, .inl (fun _ => 0))), ((r 14), .inl (cZ, 2000, .inl (fun _ => 0))), ((r 6), .inl (cI, 5, .inl (fun _ => 0))), ((r 7), .inl (cI, 5, .inl (fun _ => 0))), ((r 8), .inl (cI, 100, .inl (fun _ => 0))), ((r 9), .inl (cI, 110, .inl (mk1 22))), ((r 10), .inl (cI, 110, .inl (mk1 22))), ((r 11), .inl (cI, 110, .inl (fun _ => 0))), ((r 12), .inl (cI, 600, .inl (fun _ => 0))), ((r 13), .inl (cI, 5, .inl (fun _ => 0))), ((r 15), .inl (cI, 80, .inl (mk1 16))), ((r 16), .inl (cI, 5, .inl (fun _ => 0))), ((r 17), .inl (cI, 30, .inl (fun _ => 0))), ((r 18), .inl (cI, 30, .inl (fun _ => 0))), ((r 19), .inl (cI, 30, .inl (fun _ => 0))), ((r 20), .inl (cI, 30, .inl (fun _ => 0))), ((r 21), .inl (cI, 30, .inl (fun _ => 0))), ((r 22), .inl (cI, 30, .inl (fun _ => 0))), ((r 23), .inl (cI, 30, .inl (fun _ => 0))), ((r 24), .inl (cI, 30, .inl (fun _ => 0))), ((r 25), .inl (cI, 780, .inl (fun _ => 0))), ((r 28), .inl (cI, 5, .inl (fun _ => 0))), ((r 29), .inl (cI, 18000, .inl (fun _ => 0))), ((r 26), .inl (cB, 27000, .inl (fun _ => 0))), ((r 27), .inl (cI, 27000, .inl (fun _ => 0)))] sz)) 0 0 (va_A [((r 0), .inr (8, [.int 0, .ref (r 1), .int 0, .ref (r 3), .ref (r 4), .ref (r 5), .ref (r 6), .ref (r 7), .ref (r 8), .ref (r 9), .ref (r 10), .ref (r 11), .ref (r 12), .ref (r 13), .ref (r 14), .ref (r 15), .ref (r 16), .ref (r 17), .ref (r 18), .ref (r 19), .ref (r 20), .ref (r 21), .ref (r 22), .ref (r 23), .ref (r 24), .ref (r 25), .ref (r 26), .ref (r 27), .ref (r 28), .ref (r 29), .int 0, .int 0, .int 0, .int 0, .int 0, .int 0, .int (-1), .int 0, .int 0, .int 0, .int 0, .int 0, .int 0, .ref (r 43), .ref (r 44), .ref (r 45), .int 0, .ref (r 47)])), ((r 47), .inl (cZ, 3, .inl (fun _ => 0))), ((r 14), .inl (cZ, 2000, .inl (fun _ => 0))), ((r 6), .inl (cI, 5, .inl (fun _ => 0))), ((r 7), .inl (cI, 5, .inl (fun _ => 0))), ((r 8), .inl (cI, 100, .inl (fun _ => 0))), ((r 9), .inl (cI, 110, .inl (mk1 22))), ((r 10), .inl (cI, 110, .inl (mk1 22))), ((r 11), .inl (cI, 110, .inl (fun _ => 0))), ((r 12), .inl (cI, 600, .inl (fun _ => 0))), ((r 13), .inl (cI, 5, .inl (fun _ => 0))), ((r 15), .inl (cI, 80, .inl (mk1 16))), ((r 16), .inl (cI, 5, .inl (fun _ => 0))), ((r 17), .inl (cI, 30, .inl (fun _ => 0))), ((r 18), .inl (cI, 30, .inl (fun _ => 0))), ((r 19), .inl (cI, 30, .inl (fun _ => 0))), ((r 20), .inl (cI, 30, .inl (fun _ => 0))), ((r 21), .inl (cI, 30, .inl (fun _ => 0))), ((r 22), .inl (cI, 30, .inl (fun _ => 0))), ((r 23), .inl (cI, 30, .inl (fun _ => 0))), ((r 24), .inl (cI, 30, .inl (fun _ => 0))), ((r 25), .inl (cI, 780, .inl (fun _ => 0))), ((r 28), .inl (cI, 5, .inl (fun _ => 0))), ((r 29), .inl (cI, 18000, .inl (fun _ => 0))), ((r 26), .inl (cB, 27000, .inl (fun _ => 0))), ((r 27), .inl (cI, 27000, .inl (fun _ => 0)))] sz) := by
  refine Met.ofW (cc := cX8_image) (maxL := 2) (ret := (some .boolean)) (by decide) rfl ?_
  intro p e s m args below meth c s₁ B hml hv
  obtain ⟨rfl, hsz, hE, hP, hD0⟩ := hv
  have hx := B.exec
  have hb := B.bytes
  have hr := B.returns
  have hts := atoms_spec (ws := vs_m_image) B.pre
  have hown : s.vm.findClass RX8 = some m.cls := findClass_of_methodNamed B.named
  have hlocks := B.notSynchronized
  have hK := hE.2
  subst hsz
  have hD := hD0.self (sz := s.heap.size)
  generalize hAe : va_A [((r 0), .inr (8, [.int 0, .ref (r 1), .int 0, .ref (r 3), .ref (r 4), .ref (r 5), .ref (r 6), .ref (r 7), .ref (r 8), .ref (r 9), .ref (r 10), .ref (r 11), .ref (r 12), .ref (r 13), .ref (r 14), .ref (r 15), .ref (r 16), .ref (r 17), .ref (r 18), .ref (r 19), .ref (r 20), .ref (r 21), .ref (r 22), .ref (r 23), .ref (r 24), .ref (r 25), .ref (r 26), .ref (r 27), .ref (r 28), .ref (r 29), .int 0, .int 0, .int 0, .int 0, .int 0, .int 0, .int (-1), .int 0, .int 0, .int 0, .int 0, .int 0, .int 0, .ref (r 43), .ref (r 44), .ref (r 45), .int 0, .ref (r 47)])), ((r 47), .inl (cZ, 3, .inl (fun _ => 0))), ((r 14), .inl (cZ, 2000, .inl (fun _ => 0))), ((r 6), .inl (cI, 5, .inl (fun _ => 0))), ((r 7), .inl (cI, 5, .inl (fun _ => 0))), ((r 8), .inl (cI, 100, .inl (fun _ => 0))), ((r 9), .inl (cI, 110, .inl (mk1 22))), ((r 10), .inl (cI, 110, .inl (mk1 22))), ((r 11), .inl (cI, 110, .inl (fun _ => 0))), ((r 12), .inl (cI, 600, .inl (fun _ => 0))), ((r 13), .inl (cI, 5, .inl (fun _ => 0))), ((r 15), .inl (cI, 80, .inl (mk1 16))), ((r 16), .inl (cI, 5, .inl (fun _ => 0))), ((r 17), .inl (cI, 30, .inl (fun _ => 0))), ((r 18), .inl (cI, 30, .inl (fun _ => 0))), ((r 19), .inl (cI, 30, .inl (fun _ => 0))), ((r 20), .inl (cI, 30, .inl (fun _ => 0))), ((r 21), .inl (cI, 30, .inl (fun _ => 0))), ((r 22), .inl (cI, 30, .inl (fun _ => 0))), ((r 23), .inl (cI, 30, .inl (fun _ => 0))), ((r 24), .inl (cI, 30, .inl (fun _ => 0))), ((r 25), .inl (cI, 780, .inl (fun _ => 0))), ((r 28), .inl (cI, 5, .inl (fun _ => 0))), ((r 29), .inl (cI, 18000, .inl (fun _ => 0))), ((r 26), .inl (cB, 27000, .inl (fun _ => 0))), ((r 27), .inl (cI, 27000, .inl (fun _ => 0)))] s.heap.size = A at hD ⊢
  have hA : ∀ q : Nat, s.heap.size ≤ q → A q := fun q h => by rw [← hAe]; exact Or.inr h
  have hS : va_S A s.heap s.heap [] := va_S.rf
  have hl := lv_entry ([.ref (r 0), .int k]) (n := 2) (Nat.le_of_ble_eq_true rfl)
  rw [lg_entry_eq]
  generalize (lg_sl ([.ref (r 0), .int k]) ++ List.replicate (2 - (lg_sl ([.ref (r 0), .int k])).length) Slot.unset).toArray = ls at hl ⊢
  have hl : lv_has ls 2 [(0, .ref (r 0)), (1, .int k)] := hl
  refine lv_aload_n hx hb dX8_image_0 rfl (lv_at hl 0 rfl) ?_
  refine lv_iconst (v := 0) hx hb dX8_image_1 (by decide) ?_
  refine va_put (D := (dC, dI)) (ci := 8) (v := .int 0) (ty := .int) (C := RX8) (T := TX8) (N := 48) hx hb hts in_m_image_X8 tyX8 tyX8_ok nmX8 hown hK hP hD hS 0 rfl rfl 0 (by decide) (hts (.fieldLink RX8 126 "DepotMarchModel" "code" "I") (by decide +kernel)) (fun _ h9 => h9) rfl (by decide +kernel) rfl rfl (Nat.le_of_ble_eq_true rfl) dX8_image_2 (fun H1 locs hP hD hS => ?_)
  have hP : va_P (dC, dI) vwCl [((r 0), .inr (8, [.int 0, .ref (r 1), .int 0, .ref (r 3), .ref (r 4), .ref (r 5), .ref (r 6), .ref (r 7), .ref (r 8), .ref (r 9), .ref (r 10), .ref (r 11), .ref (r 12), .ref (r 13), .ref (r 14), .ref (r 15), .ref (r 16), .ref (r 17), .ref (r 18), .ref (r 19), .ref (r 20), .ref (r 21), .ref (r 22), .ref (r 23), .ref (r 24), .ref (r 25), .ref (r 26), .ref (r 27), .ref (r 28), .ref (r 29), .int 0, .int 0, .int 0, .int 0, .int 0, .int 0, .int (-1), .int 0, .int 0, .int 0, .int 0, .int 0, .int 0, .ref (r 43), .ref (r 44), .ref (r 45), .int 0, .ref (r 47)])), ((r 47), .inl (cZ, 3, .inl (fun _ => 0))), ((r 14), .inl (cZ, 2000, .inl (fun _ => 0))), ((r 6), .inl (cI, 5, .inl (fun _ => 0))), ((r 7), .inl (cI, 5, .inl (fun _ => 0))), ((r 8), .inl (cI, 100, .inl (fun _ => 0))), ((r 9), .inl (cI, 110, .inl (mk1 22))), ((r 10), .inl (cI, 110, .inl (mk1 22))), ((r 11), .inl (cI, 110, .inl (fun _ => 0))), ((r 12), .inl (cI, 600, .inl (fun _ => 0))), ((r 13), .inl (cI, 5, .inl (fun _ => 0))), ((r 15), .inl (cI, 80, .inl (mk1 16))), ((r 16), .inl (cI, 5, .inl (fun _ => 0))), ((r 17), .inl (cI, 30, .inl (fun _ => 0))), ((r 18), .inl (cI, 30, .inl (fun _ => 0))), ((r 19), .inl (cI, 30, .inl (fun _ => 0))), ((r 20), .inl (cI, 30, .inl (fun _ => 0))), ((r 21), .inl (cI, 30, .inl (fun _ => 0))), ((r 22), .inl (cI, 30, .inl (fun _ => 0))), ((r 23), .inl (cI, 30, .inl (fun _ => 0))), ((r 24), .inl (cI, 30, .inl (fun _ => 0))), ((r 25), .inl (cI, 780, .inl (fun _ => 0))), ((r 28), .inl (cI, 5, .inl (fun _ => 0))), ((r 29), .inl (cI, 18000, .inl (fun _ => 0))), ((r 26), .inl (cB, 27000, .inl (fun _ => 0))), ((r 27), .inl (cI, 27000, .inl (fun _ => 0)))] H1 := hP
  have hD : va_D A [((r 0), .inr (8, [.int 0, .ref (r 1), .int 0, .ref (r 3), .ref (r 4), .ref (r 5), .ref (r 6), .ref (r 7), .ref (r 8), .ref (r 9), .ref (r 10), .ref (r 11), .ref (r 12), .ref (r 13), .ref (r 14), .ref (r 15), .ref (r 16), .ref (r 17), .ref (r 18), .ref (r 19), .ref (r 20), .ref (r 21), .ref (r 22), .ref (r 23), .ref (r 24), .ref (r 25), .ref (r 26), .ref (r 27), .ref (r 28), .ref (r 29), .int 0, .int 0, .int 0, .int 0, .int 0, .int 0, .int (-1), .int 0, .int 0, .int 0, .int 0, .int 0, .int 0, .ref (r 43), .ref (r 44), .ref (r 45), .int 0, .ref (r 47)])), ((r 47), .inl (cZ, 3, .inl (fun _ => 0))), ((r 14), .inl (cZ, 2000, .inl (fun _ => 0))), ((r 6), .inl (cI, 5, .inl (fun _ => 0))), ((r 7), .inl (cI, 5, .inl (fun _ => 0))), ((r 8), .inl (cI, 100, .inl (fun _ => 0))), ((r 9), .inl (cI, 110, .inl (mk1 22))), ((r 10), .inl (cI, 110, .inl (mk1 22))), ((r 11), .inl (cI, 110, .inl (fun _ => 0))), ((r 12), .inl (cI, 600, .inl (fun _ => 0))), ((r 13), .inl (cI, 5, .inl (fun _ => 0))), ((r 15), .inl (cI, 80, .inl (mk1 16))), ((r 16), .inl (cI, 5, .inl (fun _ => 0))), ((r 17), .inl (cI, 30, .inl (fun _ => 0))), ((r 18), .inl (cI, 30, .inl (fun _ => 0))), ((r 19), .inl (cI, 30, .inl (fun _ => 0))), ((r 20), .inl (cI, 30, .inl (fun _ => 0))), ((r 21), .inl (cI, 30, .inl (fun _ => 0))), ((r 22), .inl (cI, 30, .inl (fun _ => 0))), ((r 23), .inl (cI, 30, .inl (fun _ => 0))), ((r 24), .inl (cI, 30, .inl (fun _ => 0))), ((r 25), .inl (cI, 780, .inl (fun _ => 0))), ((r 28), .inl (cI, 5, .inl (fun _ => 0))), ((r 29), .inl (cI, 18000, .inl (fun _ => 0))), ((r 26), .inl (cB, 27000, .inl (fun _ => 0))), ((r 27), .inl (cI, 27000, .inl (fun _ => 0)))] := hD
  refine lv_iload_n hx hb dX8_image_5 rfl (lv_at hl 1 rfl) ?_
  refine lv_iconst (v := 0) hx hb dX8_image_6 (by decide) ?_
  refine lv_iconst (v := 2) hx hb dX8_image_7 (by decide) ?_
  refine vp_callSi (va_Run.run (va_runS (As := [.int k, .int 0, .int 2]) (rest := []) ⟨hx, hb, hml, hown, hts⟩ (c_in l dC dI cI cZ cB cJ cP cW k 0 2) (va_cwS 3 hts g140_m_image_in rfl rfl rfl (by decide +kernel) ⟨Nat.le_of_ble_eq_true rfl, Nat.le_of_ble_eq_true rfl⟩) ⟨fbR, fun U hU hW => ⟨rfl, hE.warm hW, by rw [hU]; exact (fun k q h => by simp at h)⟩⟩ rfl rfl hl.1 rfl (lv_room (Nat.le_of_ble_eq_true rfl)) dX8_image_8 ⟨Nat.le_of_ble_eq_true rfl, Nat.le_of_ble_eq_true rfl⟩)) (fun r2 hr2 => ?_)
  obtain rfl : r2 = (inn k 0 2) := hr2
  refine lv_if_ne (tgt := 16) hx hb dX8_image_11 (by decide) (fun c3 => ?_) (fun c3 => ?_)
  · obtain ⟨K, hKK, eK⟩ := vp_in_of (inn_in (a := 0) (b := 2) (N := 3) rfl rfl (by decide) c3) (by decide)
    refine lv_aload_n hx hb dX8_image_16 rfl (lv_at hl 0 rfl) ?_
    refine lv_iconst (v := 0) hx hb dX8_image_17 (by decide) ?_
    refine lv_iload_n hx hb dX8_image_18 rfl (lv_at hl 1 rfl) ?_
    refine lv_iconst (v := 1) hx hb dX8_image_19 (by decide) ?_
    refine lv_iadd hx hb dX8_image_20 ?_
    refine lv_topi (fun x4 ex4 => ?_)
    obtain rfl : x4 = (nI (K + 1)) := ex4.trans (by rw [eK]; exact nI_1 K)
    have hPc := hP.sub (ws' := [((r 0), .inr (8, [.int 0, .ref (r 1), .int 0, .ref (r 3), .ref (r 4), .ref (r 5), .ref (r 6), .ref (r 7), .ref (r 8), .ref (r 9), .ref (r 10), .ref (r 11), .ref (r 12), .ref (r 13), .ref (r 14), .ref (r 15), .ref (r 16), .ref (r 17), .ref (r 18), .ref (r 19), .ref (r 20), .ref (r 21), .ref (r 22), .ref (r 23), .ref (r 24), .ref (r 25), .ref (r 26), .ref (r 27), .ref (r 28), .ref (r 29), .int 0, .int 0, .int 0, .int 0, .int 0, .int 0, .int (-1), .int 0, .int 0, .int 0, .int 0, .int 0, .int 0, .ref (r 43), .ref (r 44), .ref (r 45), .int 0, .ref (r 47)])), ((r 14), .inl (cZ, 2000, .inl (fun _ => 0))), ((r 6), .inl (cI, 5, .inl (fun _ => 0))), ((r 7), .inl (cI, 5, .inl (fun _ => 0))), ((r 8), .inl (cI, 100, .inl (fun _ => 0))), ((r 9), .inl (cI, 110, .inl (mk1 22))), ((r 10), .inl (cI, 110, .inl (mk1 22))), ((r 11), .inl (cI, 110, .inl (fun _ => 0))), ((r 12), .inl (cI, 600, .inl (fun _ => 0))), ((r 13), .inl (cI, 5, .inl (fun _ => 0))), ((r 15), .inl (cI, 80, .inl (mk1 16))), ((r 16), .inl (cI, 5, .inl (fun _ => 0))), ((r 17), .inl (cI, 30, .inl (fun _ => 0))), ((r 18), .inl (cI, 30, .inl (fun _ => 0))), ((r 19), .inl (cI, 30, .inl (fun _ => 0))), ((r 20), .inl (cI, 30, .inl (fun _ => 0))), ((r 21), .inl (cI, 30, .inl (fun _ => 0))), ((r 22), .inl (cI, 30, .inl (fun _ => 0))), ((r 23), .inl (cI, 30, .inl (fun _ => 0))), ((r 24), .inl (cI, 30, .inl (fun _ => 0))), ((r 25), .inl (cI, 780, .inl (fun _ => 0))), ((r 28), .inl (cI, 5, .inl (fun _ => 0))), ((r 29), .inl (cI, 18000, .inl (fun _ => 0))), ((r 26), .inl (cB, 27000, .inl (fun _ => 0))), ((r 27), .inl (cI, 27000, .inl (fun _ => 0)))]) [0, 2, 3, 4, 5, 6, 7, 8, 9, 10, 11, 12, 13, 14, 15, 16, 17, 18, 19, 20, 21, 22, 23, 24, 25] rfl
    have hDc := hD.sub (ws' := [((r 0), .inr (8, [.int 0, .ref (r 1), .int 0, .ref (r 3), .ref (r 4), .ref (r 5), .ref (r 6), .ref (r 7), .ref (r 8), .ref (r 9), .ref (r 10), .ref (r 11), .ref (r 12), .ref (r 13), .ref (r 14), .ref (r 15), .ref (r 16), .ref (r 17), .ref (r 18), .ref (r 19), .ref (r 20), .ref (r 21), .ref (r 22), .ref (r 23), .ref (r 24), .ref (r 25), .ref (r 26), .ref (r 27), .ref (r 28), .ref (r 29), .int 0, .int 0, .int 0, .int 0, .int 0, .int 0, .int (-1), .int 0, .int 0, .int 0, .int 0, .int 0, .int 0, .ref (r 43), .ref (r 44), .ref (r 45), .int 0, .ref (r 47)])), ((r 14), .inl (cZ, 2000, .inl (fun _ => 0))), ((r 6), .inl (cI, 5, .inl (fun _ => 0))), ((r 7), .inl (cI, 5, .inl (fun _ => 0))), ((r 8), .inl (cI, 100, .inl (fun _ => 0))), ((r 9), .inl (cI, 110, .inl (mk1 22))), ((r 10), .inl (cI, 110, .inl (mk1 22))), ((r 11), .inl (cI, 110, .inl (fun _ => 0))), ((r 12), .inl (cI, 600, .inl (fun _ => 0))), ((r 13), .inl (cI, 5, .inl (fun _ => 0))), ((r 15), .inl (cI, 80, .inl (mk1 16))), ((r 16), .inl (cI, 5, .inl (fun _ => 0))), ((r 17), .inl (cI, 30, .inl (fun _ => 0))), ((r 18), .inl (cI, 30, .inl (fun _ => 0))), ((r 19), .inl (cI, 30, .inl (fun _ => 0))), ((r 20), .inl (cI, 30, .inl (fun _ => 0))), ((r 21), .inl (cI, 30, .inl (fun _ => 0))), ((r 22), .inl (cI, 30, .inl (fun _ => 0))), ((r 23), .inl (cI, 30, .inl (fun _ => 0))), ((r 24), .inl (cI, 30, .inl (fun _ => 0))), ((r 25), .inl (cI, 780, .inl (fun _ => 0))), ((r 28), .inl (cI, 5, .inl (fun _ => 0))), ((r 29), .inl (cI, 18000, .inl (fun _ => 0))), ((r 26), .inl (cB, 27000, .inl (fun _ => 0))), ((r 27), .inl (cI, 27000, .inl (fun _ => 0)))]) [0, 2, 3, 4, 5, 6, 7, 8, 9, 10, 11, 12, 13, 14, 15, 16, 17, 18, 19, 20, 21, 22, 23, 24, 25] (by decide) rfl
    have hFc := va_free (wc := [((r 0), .inr (8, [.int 0, .ref (r 1), .int 0, .ref (r 3), .ref (r 4), .ref (r 5), .ref (r 6), .ref (r 7), .ref (r 8), .ref (r 9), .ref (r 10), .ref (r 11), .ref (r 12), .ref (r 13), .ref (r 14), .ref (r 15), .ref (r 16), .ref (r 17), .ref (r 18), .ref (r 19), .ref (r 20), .ref (r 21), .ref (r 22), .ref (r 23), .ref (r 24), .ref (r 25), .ref (r 26), .ref (r 27), .ref (r 28), .ref (r 29), .int 0, .int 0, .int 0, .int 0, .int 0, .int 0, .int (-1), .int 0, .int 0, .int 0, .int 0, .int 0, .int 0, .ref (r 43), .ref (r 44), .ref (r 45), .int 0, .ref (r 47)])), ((r 14), .inl (cZ, 2000, .inl (fun _ => 0))), ((r 6), .inl (cI, 5, .inl (fun _ => 0))), ((r 7), .inl (cI, 5, .inl (fun _ => 0))), ((r 8), .inl (cI, 100, .inl (fun _ => 0))), ((r 9), .inl (cI, 110, .inl (mk1 22))), ((r 10), .inl (cI, 110, .inl (mk1 22))), ((r 11), .inl (cI, 110, .inl (fun _ => 0))), ((r 12), .inl (cI, 600, .inl (fun _ => 0))), ((r 13), .inl (cI, 5, .inl (fun _ => 0))), ((r 15), .inl (cI, 80, .inl (mk1 16))), ((r 16), .inl (cI, 5, .inl (fun _ => 0))), ((r 17), .inl (cI, 30, .inl (fun _ => 0))), ((r 18), .inl (cI, 30, .inl (fun _ => 0))), ((r 19), .inl (cI, 30, .inl (fun _ => 0))), ((r 20), .inl (cI, 30, .inl (fun _ => 0))), ((r 21), .inl (cI, 30, .inl (fun _ => 0))), ((r 22), .inl (cI, 30, .inl (fun _ => 0))), ((r 23), .inl (cI, 30, .inl (fun _ => 0))), ((r 24), .inl (cI, 30, .inl (fun _ => 0))), ((r 25), .inl (cI, 780, .inl (fun _ => 0))), ((r 28), .inl (cI, 5, .inl (fun _ => 0))), ((r 29), .inl (cI, 18000, .inl (fun _ => 0))), ((r 26), .inl (cB, 27000, .inl (fun _ => 0))), ((r 27), .inl (cI, 27000, .inl (fun _ => 0)))]) hD hS hA [0, 2, 3, 4, 5, 6, 7, 8, 9, 10, 11, 12, 13, 14, 15, 16, 17, 18, 19, 20, 21, 22, 23, 24, 25] rfl
    refine va_callv (va_runV (As := [.int 0, .int (nI (K + 1))]) (rest := []) ⟨hx, hb, hml, hown, hts⟩ ((c_m_copy l dC dI cI cZ cB cJ cP cW r F0c 0 (K + 1) H1.size) (by omega) (by omega) (by omega) rfl) (cwV 2 hts g295_m_image_m_copy rfl rfl rfl (by decide +kernel) ⟨Nat.le_of_ble_eq_true rfl, Nat.le_of_ble_eq_true rfl⟩) ⟨fbM, va_recv hK hPc (ci := 8) (q0 := 0) rfl rfl, fun U hU hW => ⟨rfl, by rw [hU], hE.warm hW, by rw [hU]; exact hPc, hDc.weaken (fun _ _ _ _ => trivial)⟩⟩ rfl rfl hl.1 rfl (lv_room (Nat.le_of_ble_eq_true rfl)) dX8_image_21 ⟨Nat.le_of_ble_eq_true rfl, Nat.le_of_ble_eq_true rfl⟩) hS (fun q _ h => hFc q h) hFc (fun u6 t H7 locs ht hvm hr5 hB hz1 hk1 hS => ?_)
    obtain ⟨hP1, hD1⟩ := hB
    rw [ht] at hP1
    obtain ⟨hP, hD⟩ := va_join (wr := [((r 47), .inl (cZ, 3, .inl (fun _ => 0)))]) (w1 := [((r 0), .inr (8, [.int 0, .ref (r 1), .int 0, .ref (r 3), .ref (r 4), .ref (r 5), .ref (r 6), .ref (r 7), .ref (r 8), .ref (r 9), .ref (r 10), .ref (r 11), .ref (r 12), .ref (r 13), .ref (r 14), .ref (r 15), .ref (r 16), .ref (r 17), .ref (r 18), .ref (r 19), .ref (r 20), .ref (r 21), .ref (r 22), .ref (r 23), .ref (r 24), .ref (r 25), .ref (r 26), .ref (r 27), .ref (r 28), .ref (r 29), .int 0, .int 0, .int 0, .int 0, .int 0, .int 0, .int (-1), .int 0, .int 0, .int 0, .int 0, .int 0, .int 0, .ref (r 43), .ref (r 44), .ref (r 45), .int 0, .ref (r 47)])), ((r 14), .inl (cZ, 2000, .inl (u6 14))), ((r 6), .inl (cI, 5, .inl (u6 6))), ((r 7), .inl (cI, 5, .inl (u6 7))), ((r 8), .inl (cI, 100, .inl (u6 8))), ((r 9), .inl (cI, 110, .inl (u6 9))), ((r 10), .inl (cI, 110, .inl (u6 10))), ((r 11), .inl (cI, 110, .inl (u6 11))), ((r 12), .inl (cI, 600, .inl (u6 12))), ((r 13), .inl (cI, 5, .inl (u6 13))), ((r 15), .inl (cI, 80, .inl (u6 15))), ((r 16), .inl (cI, 5, .inl (u6 16))), ((r 17), .inl (cI, 30, .inl (u6 17))), ((r 18), .inl (cI, 30, .inl (u6 18))), ((r 19), .inl (cI, 30, .inl (u6 19))), ((r 20), .inl (cI, 30, .inl (u6 20))), ((r 21), .inl (cI, 30, .inl (u6 21))), ((r 22), .inl (cI, 30, .inl (u6 22))), ((r 23), .inl (cI, 30, .inl (u6 23))), ((r 24), .inl (cI, 30, .inl (u6 24))), ((r 25), .inl (cI, 780, .inl (u6 25))), ((r 28), .inl (cI, 5, .inl (u6 28))), ((r 29), .inl (cI, 18000, .inl (u6 29))), ((r 26), .inl (cB, 27000, .inl (u6 26))), ((r 27), .inl (cI, 27000, .inl (u6 27)))]) hP hD [0, 2, 3, 4, 5, 6, 7, 8, 9, 10, 11, 12, 13, 14, 15, 16, 17, 18, 19, 20, 21, 22, 23, 24, 25] [1] rfl rfl (by decide) (by decide) hk1 hFc hP1 hD1
    have hP : va_P (dC, dI) vwCl [((r 47), .inl (cZ, 3, .inl (fun _ => 0))), ((r 0), .inr (8, [.int 0, .ref (r 1), .int 0, .ref (r 3), .ref (r 4), .ref (r 5), .ref (r 6), .ref (r 7), .ref (r 8), .ref (r 9), .ref (r 10), .ref (r 11), .ref (r 12), .ref (r 13), .ref (r 14), .ref (r 15), .ref (r 16), .ref (r 17), .ref (r 18), .ref (r 19), .ref (r 20), .ref (r 21), .ref (r 22), .ref (r 23), .ref (r 24), .ref (r 25), .ref (r 26), .ref (r 27), .ref (r 28), .ref (r 29), .int 0, .int 0, .int 0, .int 0, .int 0, .int 0, .int (-1), .int 0, .int 0, .int 0, .int 0, .int 0, .int 0, .ref (r 43), .ref (r 44), .ref (r 45), .int 0, .ref (r 47)])), ((r 14), .inl (cZ, 2000, .inl (u6 14))), ((r 6), .inl (cI, 5, .inl (u6 6))), ((r 7), .inl (cI, 5, .inl (u6 7))), ((r 8), .inl (cI, 100, .inl (u6 8))), ((r 9), .inl (cI, 110, .inl (u6 9))), ((r 10), .inl (cI, 110, .inl (u6 10))), ((r 11), .inl (cI, 110, .inl (u6 11))), ((r 12), .inl (cI, 600, .inl (u6 12))), ((r 13), .inl (cI, 5, .inl (u6 13))), ((r 15), .inl (cI, 80, .inl (u6 15))), ((r 16), .inl (cI, 5, .inl (u6 16))), ((r 17), .inl (cI, 30, .inl (u6 17))), ((r 18), .inl (cI, 30, .inl (u6 18))), ((r 19), .inl (cI, 30, .inl (u6 19))), ((r 20), .inl (cI, 30, .inl (u6 20))), ((r 21), .inl (cI, 30, .inl (u6 21))), ((r 22), .inl (cI, 30, .inl (u6 22))), ((r 23), .inl (cI, 30, .inl (u6 23))), ((r 24), .inl (cI, 30, .inl (u6 24))), ((r 25), .inl (cI, 780, .inl (u6 25))), ((r 28), .inl (cI, 5, .inl (u6 28))), ((r 29), .inl (cI, 18000, .inl (u6 29))), ((r 26), .inl (cB, 27000, .inl (u6 26))), ((r 27), .inl (cI, 27000, .inl (u6 27)))] H7 := hP
    have hD : va_D A [((r 47), .inl (cZ, 3, .inl (fun _ => 0))), ((r 0), .inr (8, [.int 0, .ref (r 1), .int 0, .ref (r 3), .ref (r 4), .ref (r 5), .ref (r 6), .ref (r 7), .ref (r 8), .ref (r 9), .ref (r 10), .ref (r 11), .ref (r 12), .ref (r 13), .ref (r 14), .ref (r 15), .ref (r 16), .ref (r 17), .ref (r 18), .ref (r 19), .ref (r 20), .ref (r 21), .ref (r 22), .ref (r 23), .ref (r 24), .ref (r 25), .ref (r 26), .ref (r 27), .ref (r 28), .ref (r 29), .int 0, .int 0, .int 0, .int 0, .int 0, .int 0, .int (-1), .int 0, .int 0, .int 0, .int 0, .int 0, .int 0, .ref (r 43), .ref (r 44), .ref (r 45), .int 0, .ref (r 47)])), ((r 14), .inl (cZ, 2000, .inl (u6 14))), ((r 6), .inl (cI, 5, .inl (u6 6))), ((r 7), .inl (cI, 5, .inl (u6 7))), ((r 8), .inl (cI, 100, .inl (u6 8))), ((r 9), .inl (cI, 110, .inl (u6 9))), ((r 10), .inl (cI, 110, .inl (u6 10))), ((r 11), .inl (cI, 110, .inl (u6 11))), ((r 12), .inl (cI, 600, .inl (u6 12))), ((r 13), .inl (cI, 5, .inl (u6 13))), ((r 15), .inl (cI, 80, .inl (u6 15))), ((r 16), .inl (cI, 5, .inl (u6 16))), ((r 17), .inl (cI, 30, .inl (u6 17))), ((r 18), .inl (cI, 30, .inl (u6 18))), ((r 19), .inl (cI, 30, .inl (u6 19))), ((r 20), .inl (cI, 30, .inl (u6 20))), ((r 21), .inl (cI, 30, .inl (u6 21))), ((r 22), .inl (cI, 30, .inl (u6 22))), ((r 23), .inl (cI, 30, .inl (u6 23))), ((r 24), .inl (cI, 30, .inl (u6 24))), ((r 25), .inl (cI, 780, .inl (u6 25))), ((r 28), .inl (cI, 5, .inl (u6 28))), ((r 29), .inl (cI, 18000, .inl (u6 29))), ((r 26), .inl (cB, 27000, .inl (u6 26))), ((r 27), .inl (cI, 27000, .inl (u6 27)))] := hD
    refine lv_aload_n hx hb dX8_image_24 rfl (lv_at hl 0 rfl) ?_
    refine va_get (D := (dC, dI)) (ci := 8) (v := .ref (r 47)) (C := RX8) (T := TX8) (N := 48) hx hb hts in_m_image_X8 hown hK hP 1 rfl rfl 47 (by decide) (hts (.fieldLink RX8 111 "DepotMarchModel" "has" "[Z") (by decide +kernel)) (fun _ h9 => h9) rfl dX8_image_25 ?_
    refine lv_iload_n hx hb dX8_image_28 rfl (lv_at hl 1 rfl) ?_
    refine lv_iconst (v := 1) hx hb dX8_image_29 (by decide) ?_
    refine va_zast hx hb hK hP hD hS 0 1 rfl rfl (inn_in (a := 0) (b := 2) (N := 3) rfl rfl (by decide) c3) dX8_image_30 (fun H8 locs hP hD hS => ?_)
    have hP : va_P (dC, dI) vwCl [((r 47), .inl (cZ, 3, .inl (upd (fun _ => 0) k.toNatClampNeg (vp_nar .boolean 1)))), ((r 0), .inr (8, [.int 0, .ref (r 1), .int 0, .ref (r 3), .ref (r 4), .ref (r 5), .ref (r 6), .ref (r 7), .ref (r 8), .ref (r 9), .ref (r 10), .ref (r 11), .ref (r 12), .ref (r 13), .ref (r 14), .ref (r 15), .ref (r 16), .ref (r 17), .ref (r 18), .ref (r 19), .ref (r 20), .ref (r 21), .ref (r 22), .ref (r 23), .ref (r 24), .ref (r 25), .ref (r 26), .ref (r 27), .ref (r 28), .ref (r 29), .int 0, .int 0, .int 0, .int 0, .int 0, .int 0, .int (-1), .int 0, .int 0, .int 0, .int 0, .int 0, .int 0, .ref (r 43), .ref (r 44), .ref (r 45), .int 0, .ref (r 47)])), ((r 14), .inl (cZ, 2000, .inl (u6 14))), ((r 6), .inl (cI, 5, .inl (u6 6))), ((r 7), .inl (cI, 5, .inl (u6 7))), ((r 8), .inl (cI, 100, .inl (u6 8))), ((r 9), .inl (cI, 110, .inl (u6 9))), ((r 10), .inl (cI, 110, .inl (u6 10))), ((r 11), .inl (cI, 110, .inl (u6 11))), ((r 12), .inl (cI, 600, .inl (u6 12))), ((r 13), .inl (cI, 5, .inl (u6 13))), ((r 15), .inl (cI, 80, .inl (u6 15))), ((r 16), .inl (cI, 5, .inl (u6 16))), ((r 17), .inl (cI, 30, .inl (u6 17))), ((r 18), .inl (cI, 30, .inl (u6 18))), ((r 19), .inl (cI, 30, .inl (u6 19))), ((r 20), .inl (cI, 30, .inl (u6 20))), ((r 21), .inl (cI, 30, .inl (u6 21))), ((r 22), .inl (cI, 30, .inl (u6 22))), ((r 23), .inl (cI, 30, .inl (u6 23))), ((r 24), .inl (cI, 30, .inl (u6 24))), ((r 25), .inl (cI, 780, .inl (u6 25))), ((r 28), .inl (cI, 5, .inl (u6 28))), ((r 29), .inl (cI, 18000, .inl (u6 29))), ((r 26), .inl (cB, 27000, .inl (u6 26))), ((r 27), .inl (cI, 27000, .inl (u6 27)))] H8 := hP
    have hD : va_D A [((r 47), .inl (cZ, 3, .inl (upd (fun _ => 0) k.toNatClampNeg (vp_nar .boolean 1)))), ((r 0), .inr (8, [.int 0, .ref (r 1), .int 0, .ref (r 3), .ref (r 4), .ref (r 5), .ref (r 6), .ref (r 7), .ref (r 8), .ref (r 9), .ref (r 10), .ref (r 11), .ref (r 12), .ref (r 13), .ref (r 14), .ref (r 15), .ref (r 16), .ref (r 17), .ref (r 18), .ref (r 19), .ref (r 20), .ref (r 21), .ref (r 22), .ref (r 23), .ref (r 24), .ref (r 25), .ref (r 26), .ref (r 27), .ref (r 28), .ref (r 29), .int 0, .int 0, .int 0, .int 0, .int 0, .int 0, .int (-1), .int 0, .int 0, .int 0, .int 0, .int 0, .int 0, .ref (r 43), .ref (r 44), .ref (r 45), .int 0, .ref (r 47)])), ((r 14), .inl (cZ, 2000, .inl (u6 14))), ((r 6), .inl (cI, 5, .inl (u6 6))), ((r 7), .inl (cI, 5, .inl (u6 7))), ((r 8), .inl (cI, 100, .inl (u6 8))), ((r 9), .inl (cI, 110, .inl (u6 9))), ((r 10), .inl (cI, 110, .inl (u6 10))), ((r 11), .inl (cI, 110, .inl (u6 11))), ((r 12), .inl (cI, 600, .inl (u6 12))), ((r 13), .inl (cI, 5, .inl (u6 13))), ((r 15), .inl (cI, 80, .inl (u6 15))), ((r 16), .inl (cI, 5, .inl (u6 16))), ((r 17), .inl (cI, 30, .inl (u6 17))), ((r 18), .inl (cI, 30, .inl (u6 18))), ((r 19), .inl (cI, 30, .inl (u6 19))), ((r 20), .inl (cI, 30, .inl (u6 20))), ((r 21), .inl (cI, 30, .inl (u6 21))), ((r 22), .inl (cI, 30, .inl (u6 22))), ((r 23), .inl (cI, 30, .inl (u6 23))), ((r 24), .inl (cI, 30, .inl (u6 24))), ((r 25), .inl (cI, 780, .inl (u6 25))), ((r 28), .inl (cI, 5, .inl (u6 28))), ((r 29), .inl (cI, 18000, .inl (u6 29))), ((r 26), .inl (cB, 27000, .inl (u6 26))), ((r 27), .inl (cI, 27000, .inl (u6 27)))] := hD
    refine lv_iconst (v := 1) hx hb dX8_image_31 (by decide) ?_
    have hP9 := hP.sub (ws' := []) [] rfl
    have hD9 := hD.sub (ws' := []) [] (by decide) rfl
    refine W.widen (k := 0) (n := 0) (by decide) (by decide) ?_
    exact W.zret (v := 1) hx hb hr rfl (fun t ht hW => ⟨⟨1, (), rfl, (by simp [c3]), by rw [ht]; exact hP9, hD9⟩, hS.F ht⟩) hS.2.2 dX8_image_32
  · refine lv_iconst (v := 0) hx hb dX8_image_14 (by decide) ?_
    have hP9 := hP.sub (ws' := []) [] rfl
    have hD9 := hD.sub (ws' := []) [] (by decide) rfl
    refine W.widen (k := 0) (n := 0) (by decide) (by decide) ?_
    exact W.zret (v := 0) hx hb hr rfl (fun t ht hW => ⟨⟨0, (), rfl, (by simp [c3]), by rw [ht]; exact hP9, hD9⟩, hS.F ht⟩) hS.2.2 dX8_image_15

def vs_m_again : List Cond := [.code yX8_again cX8_again 2 (some .boolean), .fieldLink RX8 126 "DepotMarchModel" "code" "I", .code yX8_in cX8_in 3 (some .boolean), .methodLink RX8 140 yX8_in, .static yX8_in, .initialized RX8, .fieldLink RX8 111 "DepotMarchModel" "has" "[Z"] ++ (wsX80)
theorem in_m_again_X8 : ∀ w ∈ u_ws RX8 TX8 48, w ∈ vs_m_again := fun w h => List.mem_append_right _ (h)
set_option maxRecDepth 20000 in
theorem gg_m_again_in : GoodIn vs_m_again vs_in := goodIn_r _ [2] (by decide +kernel) (by decide +kernel)
set_option maxRecDepth 20000 in
theorem g140_m_again_in : GoodIn vs_m_again (va_wsS RX8 140 yX8_in vs_in) := goodIn_app (goodIn_of _ (by decide +kernel)) gg_m_again_in
set_option maxHeartbeats 4000000 in
set_option maxRecDepth 100000 in
theorem c_m_again (l : Launch) (dC : Nat → ClassId) (dI : Nat → Nat → Nat) (cI cZ cB cJ cP cW : ClassId) (r : Nat → Nat) (k : Int32) (sz : Nat) : Met l yX8_again vs_m_again ({ frames := 6, cells := 0, slots := 0, locals := 360 }) (va_Pc [.ref (r 0), .int k] (fun U => U.heap.size = sz ∧ EV dC dI cI cZ cB cJ cP cW U ∧ va_P (dC, dI) vwCl [((r 0), .inr (8, [.int 0, .ref (r 1), .int 0, .ref (r 3), .ref (r 4), .ref (r 5), .ref (r 6), .ref (r 7), .ref (r 8), .ref (r 9), .ref (r 10), .ref (r 11), .ref (r 12), .ref (r 13), .ref (r 14), .ref (r 15), .ref (r 16), .ref (r 17), .ref (r 18), .ref (r 19), .ref (r 20), .ref (r 21), .ref (r 22), .ref (r 23), .ref (r 24), .ref (r 25), .ref (r 26), .ref (r 27), .ref (r 28), .ref (r 29), .int 0, .int 0, .int 0, .int 0, .int 0, .int 0, .int (-1), .int 0, .int 0, .int 0, .int 0, .int 0, .int 0, .ref (r 43), .ref (r 44), .ref (r 45), .int 0, .ref (r 47)])), ((r 47), .inl (cZ, 3, .inl (fun _ => 0)))] U.heap ∧ va_D (fun _ => True) [((r 0), .inr (8, [.int 0, .ref (r 1), .int 0, .ref (r 3), .ref (r 4), .ref (r 5), .ref (r 6), .ref (r 7), .ref (r 8), .ref (r 9), .ref (r 10), .ref (r 11), .ref (r 12), .ref (r 13), .ref (r 14), .ref (r 15), .ref (r 16), .ref (r 17), .ref (r 18), .ref (r 19), .ref (r 20), .ref (r 21), .ref (r 22), .ref (r 23), .ref (r 24), .ref (r 25), .ref (r 26), .ref (r 27), .ref (r 28), .ref (r 29), .int 0, .int 0, .int 0, .int 0, .int 0, .int 0, .int (-1), .int 0, .int 0, .int 0, .int 0, .int 0, .int 0, .ref (r 43), .ref (r 44), .ref (r 45), .int 0, .ref (r 47)])), ((r 47), .inl (cZ, 3, .inl (fun _ => 0)))])) (va_Qi (fun (r : Int32) (u : Unit) => r = 0) (fun u t => va_P (dC, dI) vwCl [] t.heap ∧ va_D (va_A [((r 0), .inr (8, [.int 0, .ref (r 1), .int 0, .ref (r 3), .ref (r 4), .ref (r 5), .ref (r 6), .ref (r 7), .ref (r 8), .ref (r 9), .ref (r 10), .ref (r 11), .ref (r 12), .ref (r 13), .ref (r 14), .ref (r 15), .ref (r 16), .ref (r 17), .ref (r 18), .ref (r 19), .ref (r 20), .ref (r 21), .ref (r 22), .ref (r 23), .ref (r 24), .ref (r 25), .ref (r 26), .ref (r 27), .ref (r 28), .ref (r 29), .int 0, .int 0, .int 0, .int 0, .int 0, .int 0, .int (-1), .int 0, .int 0, .int 0, .int 0, .int 0, .int 0, .ref (r 43), .ref (r 44), .ref (r 45), .int 0, .ref (r 47)])), ((r 47), .inl (cZ, 3, .inl (fun _ => 0)))] sz) []) (va_A [((r 0), .inr (8, [.int 0, .ref (r 1), .int 0, .ref (r 3), .ref (r 4), .ref (r 5), .ref (r 6), .ref (r 7), .ref (r 8), .ref (r 9), .ref (r 10), .ref (r 11), .ref (r 12), .ref (r 13), .ref (r 14), .ref (r 15), .ref (r 16), .ref (r 17), .ref (r 18), .ref (r 19), .ref (r 20), .ref (r 21), .ref (r 22), .ref (r 23), .ref (r 24), .ref (r 25), .ref (r 26), .ref (r 27), .ref (r 28), .ref (r 29), .int 0, .int 0, .int 0, .int 0, .int 0, .int 0, .int (-1), .int 0, .int 0, .int 0, .int 0, .int 0, .int 0, .ref (r 43), .ref (r 44), .ref (r 45), .int 0, .ref (r 47)])), ((r 47), .inl (cZ, 3, .inl (fun _ => 0)))] sz)) 0 0 (va_A [((r 0), .inr (8, [.int 0, .ref (r 1), .int 0, .ref (r 3), .ref (r 4), .ref (r 5), .ref (r 6), .ref (r 7), .ref (r 8), .ref (r 9), .ref (r 10), .ref (r 11), .ref (r 12), .ref (r 13), .ref (r 14), .ref (r 15), .ref (r 16), .ref (r 17), .ref (r 18), .ref (r 19), .ref (r 20), .ref (r 21), .ref (r 22), .ref (r 23), .ref (r 24), .ref (r 25), .ref (r 26), .ref (r 27), .ref (r 28), .ref (r 29), .int 0, .int 0, .int 0, .int 0, .int 0, .int 0, .int (-1), .int 0, .int 0, .int 0, .int 0, .int 0, .int 0, .ref (r 43), .ref (r 44), .ref (r 45), .int 0, .ref (r 47)])), ((r 47), .inl (cZ, 3, .inl (fun _ => 0)))] sz) := by
  refine Met.ofW (cc := cX8_again) (maxL := 2) (ret := (some .boolean)) (by decide) rfl ?_
  intro p e s m args below meth c s₁ B hml hv
  obtain ⟨rfl, hsz, hE, hP, hD0⟩ := hv
  have hx := B.exec
  have hb := B.bytes
  have hr := B.returns
  have hts := atoms_spec (ws := vs_m_again) B.pre
  have hown : s.vm.findClass RX8 = some m.cls := findClass_of_methodNamed B.named
  have hlocks := B.notSynchronized
  have hK := hE.2
  subst hsz
  have hD := hD0.self (sz := s.heap.size)
  generalize hAe : va_A [((r 0), .inr (8, [.int 0, .ref (r 1), .int 0, .ref (r 3), .ref (r 4), .ref (r 5), .ref (r 6), .ref (r 7), .ref (r 8), .ref (r 9), .ref (r 10), .ref (r 11), .ref (r 12), .ref (r 13), .ref (r 14), .ref (r 15), .ref (r 16), .ref (r 17), .ref (r 18), .ref (r 19), .ref (r 20), .ref (r 21), .ref (r 22), .ref (r 23), .ref (r 24), .ref (r 25), .ref (r 26), .ref (r 27), .ref (r 28), .ref (r 29), .int 0, .int 0, .int 0, .int 0, .int 0, .int 0, .int (-1), .int 0, .int 0, .int 0, .int 0, .int 0, .int 0, .ref (r 43), .ref (r 44), .ref (r 45), .int 0, .ref (r 47)])), ((r 47), .inl (cZ, 3, .inl (fun _ => 0)))] s.heap.size = A at hD ⊢
  have hA : ∀ q : Nat, s.heap.size ≤ q → A q := fun q h => by rw [← hAe]; exact Or.inr h
  have hS : va_S A s.heap s.heap [] := va_S.rf
  have hl := lv_entry ([.ref (r 0), .int k]) (n := 2) (Nat.le_of_ble_eq_true rfl)
  rw [lg_entry_eq]
  generalize (lg_sl ([.ref (r 0), .int k]) ++ List.replicate (2 - (lg_sl ([.ref (r 0), .int k])).length) Slot.unset).toArray = ls at hl ⊢
  have hl : lv_has ls 2 [(0, .ref (r 0)), (1, .int k)] := hl
  refine lv_aload_n hx hb dX8_again_0 rfl (lv_at hl 0 rfl) ?_
  refine lv_iconst (v := 0) hx hb dX8_again_1 (by decide) ?_
  refine va_put (D := (dC, dI)) (ci := 8) (v := .int 0) (ty := .int) (C := RX8) (T := TX8) (N := 48) hx hb hts in_m_again_X8 tyX8 tyX8_ok nmX8 hown hK hP hD hS 0 rfl rfl 0 (by decide) (hts (.fieldLink RX8 126 "DepotMarchModel" "code" "I") (by decide +kernel)) (fun _ h9 => h9) rfl (by decide +kernel) rfl rfl (Nat.le_of_ble_eq_true rfl) dX8_again_2 (fun H1 locs hP hD hS => ?_)
  have hP : va_P (dC, dI) vwCl [((r 0), .inr (8, [.int 0, .ref (r 1), .int 0, .ref (r 3), .ref (r 4), .ref (r 5), .ref (r 6), .ref (r 7), .ref (r 8), .ref (r 9), .ref (r 10), .ref (r 11), .ref (r 12), .ref (r 13), .ref (r 14), .ref (r 15), .ref (r 16), .ref (r 17), .ref (r 18), .ref (r 19), .ref (r 20), .ref (r 21), .ref (r 22), .ref (r 23), .ref (r 24), .ref (r 25), .ref (r 26), .ref (r 27), .ref (r 28), .ref (r 29), .int 0, .int 0, .int 0, .int 0, .int 0, .int 0, .int (-1), .int 0, .int 0, .int 0, .int 0, .int 0, .int 0, .ref (r 43), .ref (r 44), .ref (r 45), .int 0, .ref (r 47)])), ((r 47), .inl (cZ, 3, .inl (fun _ => 0)))] H1 := hP
  have hD : va_D A [((r 0), .inr (8, [.int 0, .ref (r 1), .int 0, .ref (r 3), .ref (r 4), .ref (r 5), .ref (r 6), .ref (r 7), .ref (r 8), .ref (r 9), .ref (r 10), .ref (r 11), .ref (r 12), .ref (r 13), .ref (r 14), .ref (r 15), .ref (r 16), .ref (r 17), .ref (r 18), .ref (r 19), .ref (r 20), .ref (r 21), .ref (r 22), .ref (r 23), .ref (r 24), .ref (r 25), .ref (r 26), .ref (r 27), .ref (r 28), .ref (r 29), .int 0, .int 0, .int 0, .int 0, .int 0, .int 0, .int (-1), .int 0, .int 0, .int 0, .int 0, .int 0, .int 0, .ref (r 43), .ref (r 44), .ref (r 45), .int 0, .ref (r 47)])), ((r 47), .inl (cZ, 3, .inl (fun _ => 0)))] := hD
  refine lv_iload_n hx hb dX8_again_5 rfl (lv_at hl 1 rfl) ?_
  refine lv_iconst (v := 0) hx hb dX8_again_6 (by decide) ?_
  refine lv_iconst (v := 2) hx hb dX8_again_7 (by decide) ?_
  refine vp_callSi (va_Run.run (va_runS (As := [.int k, .int 0, .int 2]) (rest := []) ⟨hx, hb, hml, hown, hts⟩ (c_in l dC dI cI cZ cB cJ cP cW k 0 2) (va_cwS 3 hts g140_m_again_in rfl rfl rfl (by decide +kernel) ⟨Nat.le_of_ble_eq_true rfl, Nat.le_of_ble_eq_true rfl⟩) ⟨fbR, fun U hU hW => ⟨rfl, hE.warm hW, by rw [hU]; exact (fun k q h => by simp at h)⟩⟩ rfl rfl hl.1 rfl (lv_room (Nat.le_of_ble_eq_true rfl)) dX8_again_8 ⟨Nat.le_of_ble_eq_true rfl, Nat.le_of_ble_eq_true rfl⟩)) (fun r2 hr2 => ?_)
  obtain rfl : r2 = (inn k 0 2) := hr2
  refine lv_if_eq (tgt := 23) hx hb dX8_again_11 (by decide) (fun c3 => ?_) (fun c3 => ?_)
  · refine lv_iconst (v := 0) hx hb dX8_again_23 (by decide) ?_
    have hP9 := hP.sub (ws' := []) [] rfl
    have hD9 := hD.sub (ws' := []) [] (by decide) rfl
    refine W.widen (k := 0) (n := 0) (by decide) (by decide) ?_
    exact W.zret (v := 0) hx hb hr rfl (fun t ht hW => ⟨⟨0, (), rfl, rfl, by rw [ht]; exact hP9, hD9⟩, hS.F ht⟩) hS.2.2 dX8_again_24
  · refine lv_aload_n hx hb dX8_again_14 rfl (lv_at hl 0 rfl) ?_
    refine va_get (D := (dC, dI)) (ci := 8) (v := .ref (r 47)) (C := RX8) (T := TX8) (N := 48) hx hb hts in_m_again_X8 hown hK hP 0 rfl rfl 47 (by decide) (hts (.fieldLink RX8 111 "DepotMarchModel" "has" "[Z") (by decide +kernel)) (fun _ h9 => h9) rfl dX8_again_15 ?_
    refine lv_iload_n hx hb dX8_again_18 rfl (lv_at hl 1 rfl) ?_
    refine va_zald hx hb hK hP 1 1 rfl rfl (inn_in (a := 0) (b := 2) (N := 3) rfl rfl (by decide) c3) dX8_again_19 ?_
    refine lv_topi (fun x4 ex4 => ?_)
    obtain rfl : x4 = 0 := ex4.trans rfl
    refine lv_if_ne (tgt := 25) hx hb dX8_again_20 (by decide) (fun c9 => absurd (by decide) c9) (fun _ => ?_)
    refine lv_iconst (v := 0) hx hb dX8_again_23 (by decide) ?_
    have hP9 := hP.sub (ws' := []) [] rfl
    have hD9 := hD.sub (ws' := []) [] (by decide) rfl
    refine W.widen (k := 0) (n := 0) (by decide) (by decide) ?_
    exact W.zret (v := 0) hx hb hr rfl (fun t ht hW => ⟨⟨0, (), rfl, rfl, by rw [ht]; exact hP9, hD9⟩, hS.F ht⟩) hS.2.2 dX8_again_24

def vs_m_ahead : List Cond := [.code yX8_ahead cX8_ahead 6 (some .int), .fieldLink RX8 126 "DepotMarchModel" "code" "I", .code yX8_mayGo cX8_mayGo 2 (some .boolean), .code yX8_in cX8_in 3 (some .boolean), .methodLink RX8 140 yX8_in, .static yX8_in, .initialized RX8, .fieldLink RX8 46 "DepotMarchModel" "day" "[I", .methodLink RX8 289 yX8_mayGo, .instanceMethod yX8_mayGo, .selects RX8 yX8_mayGo yX8_mayGo, .code yX8_copy cX8_copy 5 none, .fieldLink RX8 25 "DepotMarchModel" "rations" "[I", .code yX8_moveInts cX8_moveInts 5 none, .methodLink RX8 129 yX8_moveInts, .static yX8_moveInts, .fieldLink RX8 28 "DepotMarchModel" "lots" "[I", .fieldLink RX8 31 "DepotMarchModel" "lotSize" "[I", .fieldLink RX8 34 "DepotMarchModel" "first" "[I", .fieldLink RX8 37 "DepotMarchModel" "latest" "[I", .fieldLink RX8 40 "DepotMarchModel" "count" "[I", .fieldLink RX8 43 "DepotMarchModel" "eaten" "[I", .fieldLink RX8 53 "DepotMarchModel" "letter" "[I", .fieldLink RX8 56 "DepotMarchModel" "parties" "[I", .fieldLink RX8 59 "DepotMarchModel" "men" "[I", .fieldLink RX8 62 "DepotMarchModel" "carry" "[I", .fieldLink RX8 65 "DepotMarchModel" "campOf" "[I", .fieldLink RX8 68 "DepotMarchModel" "hunger" "[I", .fieldLink RX8 71 "DepotMarchModel" "rested" "[I", .fieldLink RX8 74 "DepotMarchModel" "counted" "[I", .fieldLink RX8 77 "DepotMarchModel" "at" "[I", .fieldLink RX8 80 "DepotMarchModel" "steps" "[I", .fieldLink RX8 83 "DepotMarchModel" "names" "[I", .fieldLink RX8 92 "DepotMarchModel" "lines" "[I", .fieldLink RX8 95 "DepotMarchModel" "book" "[I", .fieldLink RX8 86 "DepotMarchModel" "op" "[B", .fieldLink RX8 89 "DepotMarchModel" "val" "[I", .fieldLink RX8 49 "DepotMarchModel" "storms" "[Z", .methodLink RX8 295 yX8_copy, .instanceMethod yX8_copy, .selects RX8 yX8_copy yX8_copy, .code yX8_stored cX8_stored 3 (some .int), .methodLink RX8 301 yX8_stored, .instanceMethod yX8_stored, .selects RX8 yX8_stored yX8_stored, .code yX8_lost cX8_lost 3 (some .int), .methodLink RX8 298 yX8_lost, .instanceMethod yX8_lost, .selects RX8 yX8_lost yX8_lost, .code yX8_oneDay cX8_oneDay 3 none, .methodLink RX8 292 yX8_oneDay, .instanceMethod yX8_oneDay, .selects RX8 yX8_oneDay yX8_oneDay] ++ (wsX80)
theorem in_m_ahead_X8 : ∀ w ∈ u_ws RX8 TX8 48, w ∈ vs_m_ahead := fun w h => List.mem_append_right _ (h)
set_option maxRecDepth 20000 in
theorem gg_m_ahead_mayGo : GoodIn vs_m_ahead vs_mayGo := goodIn_r _ [2, 3, 4, 5, 6, 7, 53, 54, 55, 56, 57, 58, 59, 60, 61, 62, 63, 64, 65, 66, 67, 68, 69, 70, 71, 72, 73, 74, 75, 76, 77, 78, 79, 80, 81, 82, 83, 84, 85, 86, 87, 88, 89, 90, 91, 92, 93, 94, 95, 96, 97, 98, 99, 100] (by decide +kernel) (by decide +kernel)
set_option maxRecDepth 20000 in
theorem gg_m_ahead_in : GoodIn vs_m_ahead vs_in := goodIn_r _ [3] (by decide +kernel) (by decide +kernel)
set_option maxRecDepth 20000 in
theorem gg_m_ahead_m_copy : GoodIn vs_m_ahead vs_m_copy := goodIn_r _ [11, 12, 13, 14, 15, 6, 16, 17, 18, 19, 20, 21, 7, 22, 23, 24, 25, 26, 27, 28, 29, 30, 31, 32, 33, 34, 35, 36, 37, 53, 54, 55, 56, 57, 58, 59, 60, 61, 62, 63, 64, 65, 66, 67, 68, 69, 70, 71, 72, 73, 74, 75, 76, 77, 78, 79, 80, 81, 82, 83, 84, 85, 86, 87, 88, 89, 90, 91, 92, 93, 94, 95, 96, 97, 98, 99, 100] (by decide +kernel) (by decide +kernel)
set_option maxRecDepth 20000 in
theorem gg_m_ahead_stored : GoodIn vs_m_ahead vs_stored := goodIn_r _ [41, 20, 53, 54, 55, 56, 57, 58, 59, 60, 61, 62, 63, 64, 65, 66, 67, 68, 69, 70, 71, 72, 73, 74, 75, 76, 77, 78, 79, 80, 81, 82, 83, 84, 85, 86, 87, 88, 89, 90, 91, 92, 93, 94, 95, 96, 97, 98, 99, 100] (by decide +kernel) (by decide +kernel)
set_option maxRecDepth 20000 in
theorem gg_m_ahead_lost : GoodIn vs_m_ahead vs_lost := goodIn_r _ [45, 23, 53, 54, 55, 56, 57, 58, 59, 60, 61, 62, 63, 64, 65, 66, 67, 68, 69, 70, 71, 72, 73, 74, 75, 76, 77, 78, 79, 80, 81, 82, 83, 84, 85, 86, 87, 88, 89, 90, 91, 92, 93, 94, 95, 96, 97, 98, 99, 100] (by decide +kernel) (by decide +kernel)
set_option maxRecDepth 20000 in
theorem gg_m_ahead_oneDay : GoodIn vs_m_ahead vs_oneDay := goodIn_r _ [49, 23, 7, 53, 54, 55, 56, 57, 58, 59, 60, 61, 62, 63, 64, 65, 66, 67, 68, 69, 70, 71, 72, 73, 74, 75, 76, 77, 78, 79, 80, 81, 82, 83, 84, 85, 86, 87, 88, 89, 90, 91, 92, 93, 94, 95, 96, 97, 98, 99, 100] (by decide +kernel) (by decide +kernel)
set_option maxRecDepth 20000 in
theorem g289_m_ahead_mayGo : GoodIn vs_m_ahead (wsV RX8 289 RX8 yX8_mayGo vs_mayGo) := goodIn_app (goodIn_of _ (by decide +kernel)) gg_m_ahead_mayGo
set_option maxRecDepth 20000 in
theorem g140_m_ahead_in : GoodIn vs_m_ahead (va_wsS RX8 140 yX8_in vs_in) := goodIn_app (goodIn_of _ (by decide +kernel)) gg_m_ahead_in
set_option maxRecDepth 20000 in
theorem g295_m_ahead_m_copy : GoodIn vs_m_ahead (wsV RX8 295 RX8 yX8_copy vs_m_copy) := goodIn_app (goodIn_of _ (by decide +kernel)) gg_m_ahead_m_copy
set_option maxRecDepth 20000 in
theorem g301_m_ahead_stored : GoodIn vs_m_ahead (wsV RX8 301 RX8 yX8_stored vs_stored) := goodIn_app (goodIn_of _ (by decide +kernel)) gg_m_ahead_stored
set_option maxRecDepth 20000 in
theorem g298_m_ahead_lost : GoodIn vs_m_ahead (wsV RX8 298 RX8 yX8_lost vs_lost) := goodIn_app (goodIn_of _ (by decide +kernel)) gg_m_ahead_lost
set_option maxRecDepth 20000 in
theorem g292_m_ahead_oneDay : GoodIn vs_m_ahead (wsV RX8 292 RX8 yX8_oneDay vs_oneDay) := goodIn_app (goodIn_of _ (by decide +kernel)) gg_m_ahead_oneDay
set_option maxHeartbeats 4000000 in
set_option maxRecDepth 100000 in
theorem c_m_ahead (l : Launch) (dC : Nat → ClassId) (dI : Nat → Nat → Nat) (cI cZ cB cJ cP cW : ClassId) (r : Nat → Nat) (n : Int32) (w : Int32) (sz : Nat) : Met l yX8_ahead vs_m_ahead ({ frames := 6, cells := 0, slots := 0, locals := 360 }) (va_Pc [.ref (r 0), .int n, .int w] (fun U => U.heap.size = sz ∧ EV dC dI cI cZ cB cJ cP cW U ∧ va_P (dC, dI) vwCl [((r 0), .inr (8, [.int 0, .ref (r 1), .int 0, .ref (r 3), .ref (r 4), .ref (r 5), .ref (r 6), .ref (r 7), .ref (r 8), .ref (r 9), .ref (r 10), .ref (r 11), .ref (r 12), .ref (r 13), .ref (r 14), .ref (r 15), .ref (r 16), .ref (r 17), .ref (r 18), .ref (r 19), .ref (r 20), .ref (r 21), .ref (r 22), .ref (r 23), .ref (r 24), .ref (r 25), .ref (r 26), .ref (r 27), .ref (r 28), .ref (r 29), .int 0, .int 0, .int 0, .int 0, .int 0, .int 0, .int (-1), .int 0, .int 0, .int 0, .int 0, .int 0, .int 0, .ref (r 43), .ref (r 44), .ref (r 45), .int 0, .ref (r 47)])), ((r 14), .inl (cZ, 2000, .inl (fun _ => 0))), ((r 6), .inl (cI, 5, .inl (fun _ => 0))), ((r 7), .inl (cI, 5, .inl (fun _ => 0))), ((r 8), .inl (cI, 100, .inl (fun _ => 0))), ((r 9), .inl (cI, 110, .inl (mk1 22))), ((r 10), .inl (cI, 110, .inl (mk1 22))), ((r 11), .inl (cI, 110, .inl (fun _ => 0))), ((r 12), .inl (cI, 600, .inl (fun _ => 0))), ((r 13), .inl (cI, 5, .inl (fun _ => 0))), ((r 15), .inl (cI, 80, .inl (mk1 16))), ((r 16), .inl (cI, 5, .inl (fun _ => 0))), ((r 17), .inl (cI, 30, .inl (fun _ => 0))), ((r 18), .inl (cI, 30, .inl (fun _ => 0))), ((r 19), .inl (cI, 30, .inl (fun _ => 0))), ((r 20), .inl (cI, 30, .inl (fun _ => 0))), ((r 21), .inl (cI, 30, .inl (fun _ => 0))), ((r 22), .inl (cI, 30, .inl (fun _ => 0))), ((r 23), .inl (cI, 30, .inl (fun _ => 0))), ((r 24), .inl (cI, 30, .inl (fun _ => 0))), ((r 25), .inl (cI, 780, .inl (fun _ => 0))), ((r 28), .inl (cI, 5, .inl (fun _ => 0))), ((r 29), .inl (cI, 18000, .inl (fun _ => 0))), ((r 26), .inl (cB, 27000, .inl (fun _ => 0))), ((r 27), .inl (cI, 27000, .inl (fun _ => 0)))] U.heap ∧ va_D (fun _ => True) [((r 0), .inr (8, [.int 0, .ref (r 1), .int 0, .ref (r 3), .ref (r 4), .ref (r 5), .ref (r 6), .ref (r 7), .ref (r 8), .ref (r 9), .ref (r 10), .ref (r 11), .ref (r 12), .ref (r 13), .ref (r 14), .ref (r 15), .ref (r 16), .ref (r 17), .ref (r 18), .ref (r 19), .ref (r 20), .ref (r 21), .ref (r 22), .ref (r 23), .ref (r 24), .ref (r 25), .ref (r 26), .ref (r 27), .ref (r 28), .ref (r 29), .int 0, .int 0, .int 0, .int 0, .int 0, .int 0, .int (-1), .int 0, .int 0, .int 0, .int 0, .int 0, .int 0, .ref (r 43), .ref (r 44), .ref (r 45), .int 0, .ref (r 47)])), ((r 14), .inl (cZ, 2000, .inl (fun _ => 0))), ((r 6), .inl (cI, 5, .inl (fun _ => 0))), ((r 7), .inl (cI, 5, .inl (fun _ => 0))), ((r 8), .inl (cI, 100, .inl (fun _ => 0))), ((r 9), .inl (cI, 110, .inl (mk1 22))), ((r 10), .inl (cI, 110, .inl (mk1 22))), ((r 11), .inl (cI, 110, .inl (fun _ => 0))), ((r 12), .inl (cI, 600, .inl (fun _ => 0))), ((r 13), .inl (cI, 5, .inl (fun _ => 0))), ((r 15), .inl (cI, 80, .inl (mk1 16))), ((r 16), .inl (cI, 5, .inl (fun _ => 0))), ((r 17), .inl (cI, 30, .inl (fun _ => 0))), ((r 18), .inl (cI, 30, .inl (fun _ => 0))), ((r 19), .inl (cI, 30, .inl (fun _ => 0))), ((r 20), .inl (cI, 30, .inl (fun _ => 0))), ((r 21), .inl (cI, 30, .inl (fun _ => 0))), ((r 22), .inl (cI, 30, .inl (fun _ => 0))), ((r 23), .inl (cI, 30, .inl (fun _ => 0))), ((r 24), .inl (cI, 30, .inl (fun _ => 0))), ((r 25), .inl (cI, 780, .inl (fun _ => 0))), ((r 28), .inl (cI, 5, .inl (fun _ => 0))), ((r 29), .inl (cI, 18000, .inl (fun _ => 0))), ((r 26), .inl (cB, 27000, .inl (fun _ => 0))), ((r 27), .inl (cI, 27000, .inl (fun _ => 0)))])) (va_Qi (fun (r : Int32) (u : Unit) => r = if mg n = 0 then -2 else if inn w 0 2 = 0 then -2 else if w = 0 then -1 else 0) (fun u t => va_P (dC, dI) vwCl [] t.heap ∧ va_D (va_A [((r 0), .inr (8, [.int 0, .ref (r 1), .int 0, .ref (r 3), .ref (r 4), .ref (r 5), .ref (r 6), .ref (r 7), .ref (r 8), .ref (r 9), .ref (r 10), .ref (r 11), .ref (r 12), .ref (r 13), .ref (r 14), .ref (r 15), .ref (r 16), .ref (r 17), .ref (r 18), .ref (r 19), .ref (r 20), .ref (r 21), .ref (r 22), .ref (r 23), .ref (r 24), .ref (r 25), .ref (r 26), .ref (r 27), .ref (r 28), .ref (r 29), .int 0, .int 0, .int 0, .int 0, .int 0, .int 0, .int (-1), .int 0, .int 0, .int 0, .int 0, .int 0, .int 0, .ref (r 43), .ref (r 44), .ref (r 45), .int 0, .ref (r 47)])), ((r 14), .inl (cZ, 2000, .inl (fun _ => 0))), ((r 6), .inl (cI, 5, .inl (fun _ => 0))), ((r 7), .inl (cI, 5, .inl (fun _ => 0))), ((r 8), .inl (cI, 100, .inl (fun _ => 0))), ((r 9), .inl (cI, 110, .inl (mk1 22))), ((r 10), .inl (cI, 110, .inl (mk1 22))), ((r 11), .inl (cI, 110, .inl (fun _ => 0))), ((r 12), .inl (cI, 600, .inl (fun _ => 0))), ((r 13), .inl (cI, 5, .inl (fun _ => 0))), ((r 15), .inl (cI, 80, .inl (mk1 16))), ((r 16), .inl (cI, 5, .inl (fun _ => 0))), ((r 17), .inl (cI, 30, .inl (fun _ => 0))), ((r 18), .inl (cI, 30, .inl (fun _ => 0))), ((r 19), .inl (cI, 30, .inl (fun _ => 0))), ((r 20), .inl (cI, 30, .inl (fun _ => 0))), ((r 21), .inl (cI, 30, .inl (fun _ => 0))), ((r 22), .inl (cI, 30, .inl (fun _ => 0))), ((r 23), .inl (cI, 30, .inl (fun _ => 0))), ((r 24), .inl (cI, 30, .inl (fun _ => 0))), ((r 25), .inl (cI, 780, .inl (fun _ => 0))), ((r 28), .inl (cI, 5, .inl (fun _ => 0))), ((r 29), .inl (cI, 18000, .inl (fun _ => 0))), ((r 26), .inl (cB, 27000, .inl (fun _ => 0))), ((r 27), .inl (cI, 27000, .inl (fun _ => 0)))] sz) []) (va_A [((r 0), .inr (8, [.int 0, .ref (r 1), .int 0, .ref (r 3), .ref (r 4), .ref (r 5), .ref (r 6), .ref (r 7), .ref (r 8), .ref (r 9), .ref (r 10), .ref (r 11), .ref (r 12), .ref (r 13), .ref (r 14), .ref (r 15), .ref (r 16), .ref (r 17), .ref (r 18), .ref (r 19), .ref (r 20), .ref (r 21), .ref (r 22), .ref (r 23), .ref (r 24), .ref (r 25), .ref (r 26), .ref (r 27), .ref (r 28), .ref (r 29), .int 0, .int 0, .int 0, .int 0, .int 0, .int 0, .int (-1), .int 0, .int 0, .int 0, .int 0, .int 0, .int 0, .ref (r 43), .ref (r 44), .ref (r 45), .int 0, .ref (r 47)])), ((r 14), .inl (cZ, 2000, .inl (fun _ => 0))), ((r 6), .inl (cI, 5, .inl (fun _ => 0))), ((r 7), .inl (cI, 5, .inl (fun _ => 0))), ((r 8), .inl (cI, 100, .inl (fun _ => 0))), ((r 9), .inl (cI, 110, .inl (mk1 22))), ((r 10), .inl (cI, 110, .inl (mk1 22))), ((r 11), .inl (cI, 110, .inl (fun _ => 0))), ((r 12), .inl (cI, 600, .inl (fun _ => 0))), ((r 13), .inl (cI, 5, .inl (fun _ => 0))), ((r 15), .inl (cI, 80, .inl (mk1 16))), ((r 16), .inl (cI, 5, .inl (fun _ => 0))), ((r 17), .inl (cI, 30, .inl (fun _ => 0))), ((r 18), .inl (cI, 30, .inl (fun _ => 0))), ((r 19), .inl (cI, 30, .inl (fun _ => 0))), ((r 20), .inl (cI, 30, .inl (fun _ => 0))), ((r 21), .inl (cI, 30, .inl (fun _ => 0))), ((r 22), .inl (cI, 30, .inl (fun _ => 0))), ((r 23), .inl (cI, 30, .inl (fun _ => 0))), ((r 24), .inl (cI, 30, .inl (fun _ => 0))), ((r 25), .inl (cI, 780, .inl (fun _ => 0))), ((r 28), .inl (cI, 5, .inl (fun _ => 0))), ((r 29), .inl (cI, 18000, .inl (fun _ => 0))), ((r 26), .inl (cB, 27000, .inl (fun _ => 0))), ((r 27), .inl (cI, 27000, .inl (fun _ => 0)))] sz)) 0 0 (va_A [((r 0), .inr (8, [.int 0, .ref (r 1), .int 0, .ref (r 3), .ref (r 4), .ref (r 5), .ref (r 6), .ref (r 7), .ref (r 8), .ref (r 9), .ref (r 10), .ref (r 11), .ref (r 12), .ref (r 13), .ref (r 14), .ref (r 15), .ref (r 16), .ref (r 17), .ref (r 18), .ref (r 19), .ref (r 20), .ref (r 21), .ref (r 22), .ref (r 23), .ref (r 24), .ref (r 25), .ref (r 26), .ref (r 27), .ref (r 28), .ref (r 29), .int 0, .int 0, .int 0, .int 0, .int 0, .int 0, .int (-1), .int 0, .int 0, .int 0, .int 0, .int 0, .int 0, .ref (r 43), .ref (r 44), .ref (r 45), .int 0, .ref (r 47)])), ((r 14), .inl (cZ, 2000, .inl (fun _ => 0))), ((r 6), .inl (cI, 5, .inl (fun _ => 0))), ((r 7), .inl (cI, 5, .inl (fun _ => 0))), ((r 8), .inl (cI, 100, .inl (fun _ => 0))), ((r 9), .inl (cI, 110, .inl (mk1 22))), ((r 10), .inl (cI, 110, .inl (mk1 22))), ((r 11), .inl (cI, 110, .inl (fun _ => 0))), ((r 12), .inl (cI, 600, .inl (fun _ => 0))), ((r 13), .inl (cI, 5, .inl (fun _ => 0))), ((r 15), .inl (cI, 80, .inl (mk1 16))), ((r 16), .inl (cI, 5, .inl (fun _ => 0))), ((r 17), .inl (cI, 30, .inl (fun _ => 0))), ((r 18), .inl (cI, 30, .inl (fun _ => 0))), ((r 19), .inl (cI, 30, .inl (fun _ => 0))), ((r 20), .inl (cI, 30, .inl (fun _ => 0))), ((r 21), .inl (cI, 30, .inl (fun _ => 0))), ((r 22), .inl (cI, 30, .inl (fun _ => 0))), ((r 23), .inl (cI, 30, .inl (fun _ => 0))), ((r 24), .inl (cI, 30, .inl (fun _ => 0))), ((r 25), .inl (cI, 780, .inl (fun _ => 0))), ((r 28), .inl (cI, 5, .inl (fun _ => 0))), ((r 29), .inl (cI, 18000, .inl (fun _ => 0))), ((r 26), .inl (cB, 27000, .inl (fun _ => 0))), ((r 27), .inl (cI, 27000, .inl (fun _ => 0)))] sz) := by
  refine Met.ofW (cc := cX8_ahead) (maxL := 6) (ret := (some .int)) (by decide) rfl ?_
  intro p e s m args below meth c s₁ B hml hv
  obtain ⟨rfl, hsz, hE, hP, hD0⟩ := hv
  have hx := B.exec
  have hb := B.bytes
  have hr := B.returns
  have hts := atoms_spec (ws := vs_m_ahead) B.pre
  have hown : s.vm.findClass RX8 = some m.cls := findClass_of_methodNamed B.named
  have hlocks := B.notSynchronized
  have hK := hE.2
  subst hsz
  have hD := hD0.self (sz := s.heap.size)
  generalize hAe : va_A [((r 0), .inr (8, [.int 0, .ref (r 1), .int 0, .ref (r 3), .ref (r 4), .ref (r 5), .ref (r 6), .ref (r 7), .ref (r 8), .ref (r 9), .ref (r 10), .ref (r 11), .ref (r 12), .ref (r 13), .ref (r 14), .ref (r 15), .ref (r 16), .ref (r 17), .ref (r 18), .ref (r 19), .ref (r 20), .ref (r 21), .ref (r 22), .ref (r 23), .ref (r 24), .ref (r 25), .ref (r 26), .ref (r 27), .ref (r 28), .ref (r 29), .int 0, .int 0, .int 0, .int 0, .int 0, .int 0, .int (-1), .int 0, .int 0, .int 0, .int 0, .int 0, .int 0, .ref (r 43), .ref (r 44), .ref (r 45), .int 0, .ref (r 47)])), ((r 14), .inl (cZ, 2000, .inl (fun _ => 0))), ((r 6), .inl (cI, 5, .inl (fun _ => 0))), ((r 7), .inl (cI, 5, .inl (fun _ => 0))), ((r 8), .inl (cI, 100, .inl (fun _ => 0))), ((r 9), .inl (cI, 110, .inl (mk1 22))), ((r 10), .inl (cI, 110, .inl (mk1 22))), ((r 11), .inl (cI, 110, .inl (fun _ => 0))), ((r 12), .inl (cI, 600, .inl (fun _ => 0))), ((r 13), .inl (cI, 5, .inl (fun _ => 0))), ((r 15), .inl (cI, 80, .inl (mk1 16))), ((r 16), .inl (cI, 5, .inl (fun _ => 0))), ((r 17), .inl (cI, 30, .inl (fun _ => 0))), ((r 18), .inl (cI, 30, .inl (fun _ => 0))), ((r 19), .inl (cI, 30, .inl (fun _ => 0))), ((r 20), .inl (cI, 30, .inl (fun _ => 0))), ((r 21), .inl (cI, 30, .inl (fun _ => 0))), ((r 22), .inl (cI, 30, .inl (fun _ => 0))), ((r 23), .inl (cI, 30, .inl (fun _ => 0))), ((r 24), .inl (cI, 30, .inl (fun _ => 0))), ((r 25), .inl (cI, 780, .inl (fun _ => 0))), ((r 28), .inl (cI, 5, .inl (fun _ => 0))), ((r 29), .inl (cI, 18000, .inl (fun _ => 0))), ((r 26), .inl (cB, 27000, .inl (fun _ => 0))), ((r 27), .inl (cI, 27000, .inl (fun _ => 0)))] s.heap.size = A at hD ⊢
  have hA : ∀ q : Nat, s.heap.size ≤ q → A q := fun q h => by rw [← hAe]; exact Or.inr h
  have hS : va_S A s.heap s.heap [] := va_S.rf
  have hl := lv_entry ([.ref (r 0), .int n, .int w]) (n := 6) (Nat.le_of_ble_eq_true rfl)
  rw [lg_entry_eq]
  generalize (lg_sl ([.ref (r 0), .int n, .int w]) ++ List.replicate (6 - (lg_sl ([.ref (r 0), .int n, .int w])).length) Slot.unset).toArray = ls at hl ⊢
  have hl : lv_has ls 6 [(0, .ref (r 0)), (1, .int n), (2, .int w)] := hl
  refine lv_aload_n hx hb dX8_ahead_0 rfl (lv_at hl 0 rfl) ?_
  refine lv_iconst (v := 0) hx hb dX8_ahead_1 (by decide) ?_
  refine va_put (D := (dC, dI)) (ci := 8) (v := .int 0) (ty := .int) (C := RX8) (T := TX8) (N := 48) hx hb hts in_m_ahead_X8 tyX8 tyX8_ok nmX8 hown hK hP hD hS 0 rfl rfl 0 (by decide) (hts (.fieldLink RX8 126 "DepotMarchModel" "code" "I") (by decide +kernel)) (fun _ h9 => h9) rfl (by decide +kernel) rfl rfl (Nat.le_of_ble_eq_true rfl) dX8_ahead_2 (fun H1 locs hP hD hS => ?_)
  have hP : va_P (dC, dI) vwCl [((r 0), .inr (8, [.int 0, .ref (r 1), .int 0, .ref (r 3), .ref (r 4), .ref (r 5), .ref (r 6), .ref (r 7), .ref (r 8), .ref (r 9), .ref (r 10), .ref (r 11), .ref (r 12), .ref (r 13), .ref (r 14), .ref (r 15), .ref (r 16), .ref (r 17), .ref (r 18), .ref (r 19), .ref (r 20), .ref (r 21), .ref (r 22), .ref (r 23), .ref (r 24), .ref (r 25), .ref (r 26), .ref (r 27), .ref (r 28), .ref (r 29), .int 0, .int 0, .int 0, .int 0, .int 0, .int 0, .int (-1), .int 0, .int 0, .int 0, .int 0, .int 0, .int 0, .ref (r 43), .ref (r 44), .ref (r 45), .int 0, .ref (r 47)])), ((r 14), .inl (cZ, 2000, .inl (fun _ => 0))), ((r 6), .inl (cI, 5, .inl (fun _ => 0))), ((r 7), .inl (cI, 5, .inl (fun _ => 0))), ((r 8), .inl (cI, 100, .inl (fun _ => 0))), ((r 9), .inl (cI, 110, .inl (mk1 22))), ((r 10), .inl (cI, 110, .inl (mk1 22))), ((r 11), .inl (cI, 110, .inl (fun _ => 0))), ((r 12), .inl (cI, 600, .inl (fun _ => 0))), ((r 13), .inl (cI, 5, .inl (fun _ => 0))), ((r 15), .inl (cI, 80, .inl (mk1 16))), ((r 16), .inl (cI, 5, .inl (fun _ => 0))), ((r 17), .inl (cI, 30, .inl (fun _ => 0))), ((r 18), .inl (cI, 30, .inl (fun _ => 0))), ((r 19), .inl (cI, 30, .inl (fun _ => 0))), ((r 20), .inl (cI, 30, .inl (fun _ => 0))), ((r 21), .inl (cI, 30, .inl (fun _ => 0))), ((r 22), .inl (cI, 30, .inl (fun _ => 0))), ((r 23), .inl (cI, 30, .inl (fun _ => 0))), ((r 24), .inl (cI, 30, .inl (fun _ => 0))), ((r 25), .inl (cI, 780, .inl (fun _ => 0))), ((r 28), .inl (cI, 5, .inl (fun _ => 0))), ((r 29), .inl (cI, 18000, .inl (fun _ => 0))), ((r 26), .inl (cB, 27000, .inl (fun _ => 0))), ((r 27), .inl (cI, 27000, .inl (fun _ => 0)))] H1 := hP
  have hD : va_D A [((r 0), .inr (8, [.int 0, .ref (r 1), .int 0, .ref (r 3), .ref (r 4), .ref (r 5), .ref (r 6), .ref (r 7), .ref (r 8), .ref (r 9), .ref (r 10), .ref (r 11), .ref (r 12), .ref (r 13), .ref (r 14), .ref (r 15), .ref (r 16), .ref (r 17), .ref (r 18), .ref (r 19), .ref (r 20), .ref (r 21), .ref (r 22), .ref (r 23), .ref (r 24), .ref (r 25), .ref (r 26), .ref (r 27), .ref (r 28), .ref (r 29), .int 0, .int 0, .int 0, .int 0, .int 0, .int 0, .int (-1), .int 0, .int 0, .int 0, .int 0, .int 0, .int 0, .ref (r 43), .ref (r 44), .ref (r 45), .int 0, .ref (r 47)])), ((r 14), .inl (cZ, 2000, .inl (fun _ => 0))), ((r 6), .inl (cI, 5, .inl (fun _ => 0))), ((r 7), .inl (cI, 5, .inl (fun _ => 0))), ((r 8), .inl (cI, 100, .inl (fun _ => 0))), ((r 9), .inl (cI, 110, .inl (mk1 22))), ((r 10), .inl (cI, 110, .inl (mk1 22))), ((r 11), .inl (cI, 110, .inl (fun _ => 0))), ((r 12), .inl (cI, 600, .inl (fun _ => 0))), ((r 13), .inl (cI, 5, .inl (fun _ => 0))), ((r 15), .inl (cI, 80, .inl (mk1 16))), ((r 16), .inl (cI, 5, .inl (fun _ => 0))), ((r 17), .inl (cI, 30, .inl (fun _ => 0))), ((r 18), .inl (cI, 30, .inl (fun _ => 0))), ((r 19), .inl (cI, 30, .inl (fun _ => 0))), ((r 20), .inl (cI, 30, .inl (fun _ => 0))), ((r 21), .inl (cI, 30, .inl (fun _ => 0))), ((r 22), .inl (cI, 30, .inl (fun _ => 0))), ((r 23), .inl (cI, 30, .inl (fun _ => 0))), ((r 24), .inl (cI, 30, .inl (fun _ => 0))), ((r 25), .inl (cI, 780, .inl (fun _ => 0))), ((r 28), .inl (cI, 5, .inl (fun _ => 0))), ((r 29), .inl (cI, 18000, .inl (fun _ => 0))), ((r 26), .inl (cB, 27000, .inl (fun _ => 0))), ((r 27), .inl (cI, 27000, .inl (fun _ => 0)))] := hD
  refine lv_aload_n hx hb dX8_ahead_5 rfl (lv_at hl 0 rfl) ?_
  refine lv_iload_n hx hb dX8_ahead_6 rfl (lv_at hl 1 rfl) ?_
  have hPc := hP.sub (ws' := [((r 0), .inr (8, [.int 0, .ref (r 1), .int 0, .ref (r 3), .ref (r 4), .ref (r 5), .ref (r 6), .ref (r 7), .ref (r 8), .ref (r 9), .ref (r 10), .ref (r 11), .ref (r 12), .ref (r 13), .ref (r 14), .ref (r 15), .ref (r 16), .ref (r 17), .ref (r 18), .ref (r 19), .ref (r 20), .ref (r 21), .ref (r 22), .ref (r 23), .ref (r 24), .ref (r 25), .ref (r 26), .ref (r 27), .ref (r 28), .ref (r 29), .int 0, .int 0, .int 0, .int 0, .int 0, .int 0, .int (-1), .int 0, .int 0, .int 0, .int 0, .int 0, .int 0, .ref (r 43), .ref (r 44), .ref (r 45), .int 0, .ref (r 47)])), ((r 13), .inl (cI, 5, .inl (fun _ => 0)))]) [0, 9] rfl
  refine vp_callSi (va_Run.run (va_runV (As := [.int n]) (rest := []) ⟨hx, hb, hml, hown, hts⟩ (c_mayGo l dC dI cI cZ cB cJ cP cW r n) (cwV 1 hts g289_m_ahead_mayGo rfl rfl rfl (by decide +kernel) ⟨Nat.le_of_ble_eq_true rfl, Nat.le_of_ble_eq_true rfl⟩) ⟨fbR, va_recv hK hPc (ci := 8) (q0 := 0) rfl rfl, fun U hU hW => ⟨rfl, hE.warm hW, by rw [hU]; exact hPc⟩⟩ rfl rfl hl.1 rfl (lv_room (Nat.le_of_ble_eq_true rfl)) dX8_ahead_7 ⟨Nat.le_of_ble_eq_true rfl, Nat.le_of_ble_eq_true rfl⟩)) (fun r2 hr2 => ?_)
  obtain rfl : r2 = (mg n) := hr2
  refine lv_if_eq (tgt := 22) hx hb dX8_ahead_10 (by decide) (fun c3 => ?_) (fun c3 => ?_)
  · refine lv_bipush (v := (-2)) hx hb dX8_ahead_22 (by decide) ?_
    have hP9 := hP.sub (ws' := []) [] rfl
    have hD9 := hD.sub (ws' := []) [] (by decide) rfl
    refine W.widen (k := 0) (n := 0) (by decide) (by decide) ?_
    exact W.iret (v := (-2)) hx hb hr (fun t ht hW => ⟨⟨(-2), (), rfl, (by simp [c3]), by rw [ht]; exact hP9, hD9⟩, hS.F ht⟩) hS.2.2 dX8_ahead_24
  · refine lv_iload_n hx hb dX8_ahead_13 rfl (lv_at hl 2 rfl) ?_
    refine lv_iconst (v := 0) hx hb dX8_ahead_14 (by decide) ?_
    refine lv_iconst (v := 2) hx hb dX8_ahead_15 (by decide) ?_
    refine vp_callSi (va_Run.run (va_runS (As := [.int w, .int 0, .int 2]) (rest := []) ⟨hx, hb, hml, hown, hts⟩ (c_in l dC dI cI cZ cB cJ cP cW w 0 2) (va_cwS 3 hts g140_m_ahead_in rfl rfl rfl (by decide +kernel) ⟨Nat.le_of_ble_eq_true rfl, Nat.le_of_ble_eq_true rfl⟩) ⟨fbR, fun U hU hW => ⟨rfl, hE.warm hW, by rw [hU]; exact (fun k q h => by simp at h)⟩⟩ rfl rfl hl.1 rfl (lv_room (Nat.le_of_ble_eq_true rfl)) dX8_ahead_16 ⟨Nat.le_of_ble_eq_true rfl, Nat.le_of_ble_eq_true rfl⟩)) (fun r4 hr4 => ?_)
    obtain rfl : r4 = (inn w 0 2) := hr4
    refine lv_if_ne (tgt := 25) hx hb dX8_ahead_19 (by decide) (fun c5 => ?_) (fun c5 => ?_)
    · obtain ⟨K, hKK, eK⟩ := mg_in c3
      refine lv_aload_n hx hb dX8_ahead_25 rfl (lv_at hl 0 rfl) ?_
      refine lv_iconst (v := 0) hx hb dX8_ahead_26 (by decide) ?_
      refine lv_iconst (v := 4) hx hb dX8_ahead_27 (by decide) ?_
      have hPc := hP.sub (ws' := [((r 0), .inr (8, [.int 0, .ref (r 1), .int 0, .ref (r 3), .ref (r 4), .ref (r 5), .ref (r 6), .ref (r 7), .ref (r 8), .ref (r 9), .ref (r 10), .ref (r 11), .ref (r 12), .ref (r 13), .ref (r 14), .ref (r 15), .ref (r 16), .ref (r 17), .ref (r 18), .ref (r 19), .ref (r 20), .ref (r 21), .ref (r 22), .ref (r 23), .ref (r 24), .ref (r 25), .ref (r 26), .ref (r 27), .ref (r 28), .ref (r 29), .int 0, .int 0, .int 0, .int 0, .int 0, .int 0, .int (-1), .int 0, .int 0, .int 0, .int 0, .int 0, .int 0, .ref (r 43), .ref (r 44), .ref (r 45), .int 0, .ref (r 47)])), ((r 14), .inl (cZ, 2000, .inl (fun _ => 0))), ((r 6), .inl (cI, 5, .inl (fun _ => 0))), ((r 7), .inl (cI, 5, .inl (fun _ => 0))), ((r 8), .inl (cI, 100, .inl (fun _ => 0))), ((r 9), .inl (cI, 110, .inl (mk1 22))), ((r 10), .inl (cI, 110, .inl (mk1 22))), ((r 11), .inl (cI, 110, .inl (fun _ => 0))), ((r 12), .inl (cI, 600, .inl (fun _ => 0))), ((r 13), .inl (cI, 5, .inl (fun _ => 0))), ((r 15), .inl (cI, 80, .inl (mk1 16))), ((r 16), .inl (cI, 5, .inl (fun _ => 0))), ((r 17), .inl (cI, 30, .inl (fun _ => 0))), ((r 18), .inl (cI, 30, .inl (fun _ => 0))), ((r 19), .inl (cI, 30, .inl (fun _ => 0))), ((r 20), .inl (cI, 30, .inl (fun _ => 0))), ((r 21), .inl (cI, 30, .inl (fun _ => 0))), ((r 22), .inl (cI, 30, .inl (fun _ => 0))), ((r 23), .inl (cI, 30, .inl (fun _ => 0))), ((r 24), .inl (cI, 30, .inl (fun _ => 0))), ((r 25), .inl (cI, 780, .inl (fun _ => 0))), ((r 28), .inl (cI, 5, .inl (fun _ => 0))), ((r 29), .inl (cI, 18000, .inl (fun _ => 0))), ((r 26), .inl (cB, 27000, .inl (fun _ => 0))), ((r 27), .inl (cI, 27000, .inl (fun _ => 0)))]) [0, 1, 2, 3, 4, 5, 6, 7, 8, 9, 10, 11, 12, 13, 14, 15, 16, 17, 18, 19, 20, 21, 22, 23, 24] rfl
      have hDc := hD.sub (ws' := [((r 0), .inr (8, [.int 0, .ref (r 1), .int 0, .ref (r 3), .ref (r 4), .ref (r 5), .ref (r 6), .ref (r 7), .ref (r 8), .ref (r 9), .ref (r 10), .ref (r 11), .ref (r 12), .ref (r 13), .ref (r 14), .ref (r 15), .ref (r 16), .ref (r 17), .ref (r 18), .ref (r 19), .ref (r 20), .ref (r 21), .ref (r 22), .ref (r 23), .ref (r 24), .ref (r 25), .ref (r 26), .ref (r 27), .ref (r 28), .ref (r 29), .int 0, .int 0, .int 0, .int 0, .int 0, .int 0, .int (-1), .int 0, .int 0, .int 0, .int 0, .int 0, .int 0, .ref (r 43), .ref (r 44), .ref (r 45), .int 0, .ref (r 47)])), ((r 14), .inl (cZ, 2000, .inl (fun _ => 0))), ((r 6), .inl (cI, 5, .inl (fun _ => 0))), ((r 7), .inl (cI, 5, .inl (fun _ => 0))), ((r 8), .inl (cI, 100, .inl (fun _ => 0))), ((r 9), .inl (cI, 110, .inl (mk1 22))), ((r 10), .inl (cI, 110, .inl (mk1 22))), ((r 11), .inl (cI, 110, .inl (fun _ => 0))), ((r 12), .inl (cI, 600, .inl (fun _ => 0))), ((r 13), .inl (cI, 5, .inl (fun _ => 0))), ((r 15), .inl (cI, 80, .inl (mk1 16))), ((r 16), .inl (cI, 5, .inl (fun _ => 0))), ((r 17), .inl (cI, 30, .inl (fun _ => 0))), ((r 18), .inl (cI, 30, .inl (fun _ => 0))), ((r 19), .inl (cI, 30, .inl (fun _ => 0))), ((r 20), .inl (cI, 30, .inl (fun _ => 0))), ((r 21), .inl (cI, 30, .inl (fun _ => 0))), ((r 22), .inl (cI, 30, .inl (fun _ => 0))), ((r 23), .inl (cI, 30, .inl (fun _ => 0))), ((r 24), .inl (cI, 30, .inl (fun _ => 0))), ((r 25), .inl (cI, 780, .inl (fun _ => 0))), ((r 28), .inl (cI, 5, .inl (fun _ => 0))), ((r 29), .inl (cI, 18000, .inl (fun _ => 0))), ((r 26), .inl (cB, 27000, .inl (fun _ => 0))), ((r 27), .inl (cI, 27000, .inl (fun _ => 0)))]) [0, 1, 2, 3, 4, 5, 6, 7, 8, 9, 10, 11, 12, 13, 14, 15, 16, 17, 18, 19, 20, 21, 22, 23, 24] (by decide) rfl
      have hFc := va_free (wc := [((r 0), .inr (8, [.int 0, .ref (r 1), .int 0, .ref (r 3), .ref (r 4), .ref (r 5), .ref (r 6), .ref (r 7), .ref (r 8), .ref (r 9), .ref (r 10), .ref (r 11), .ref (r 12), .ref (r 13), .ref (r 14), .ref (r 15), .ref (r 16), .ref (r 17), .ref (r 18), .ref (r 19), .ref (r 20), .ref (r 21), .ref (r 22), .ref (r 23), .ref (r 24), .ref (r 25), .ref (r 26), .ref (r 27), .ref (r 28), .ref (r 29), .int 0, .int 0, .int 0, .int 0, .int 0, .int 0, .int (-1), .int 0, .int 0, .int 0, .int 0, .int 0, .int 0, .ref (r 43), .ref (r 44), .ref (r 45), .int 0, .ref (r 47)])), ((r 14), .inl (cZ, 2000, .inl (fun _ => 0))), ((r 6), .inl (cI, 5, .inl (fun _ => 0))), ((r 7), .inl (cI, 5, .inl (fun _ => 0))), ((r 8), .inl (cI, 100, .inl (fun _ => 0))), ((r 9), .inl (cI, 110, .inl (mk1 22))), ((r 10), .inl (cI, 110, .inl (mk1 22))), ((r 11), .inl (cI, 110, .inl (fun _ => 0))), ((r 12), .inl (cI, 600, .inl (fun _ => 0))), ((r 13), .inl (cI, 5, .inl (fun _ => 0))), ((r 15), .inl (cI, 80, .inl (mk1 16))), ((r 16), .inl (cI, 5, .inl (fun _ => 0))), ((r 17), .inl (cI, 30, .inl (fun _ => 0))), ((r 18), .inl (cI, 30, .inl (fun _ => 0))), ((r 19), .inl (cI, 30, .inl (fun _ => 0))), ((r 20), .inl (cI, 30, .inl (fun _ => 0))), ((r 21), .inl (cI, 30, .inl (fun _ => 0))), ((r 22), .inl (cI, 30, .inl (fun _ => 0))), ((r 23), .inl (cI, 30, .inl (fun _ => 0))), ((r 24), .inl (cI, 30, .inl (fun _ => 0))), ((r 25), .inl (cI, 780, .inl (fun _ => 0))), ((r 28), .inl (cI, 5, .inl (fun _ => 0))), ((r 29), .inl (cI, 18000, .inl (fun _ => 0))), ((r 26), .inl (cB, 27000, .inl (fun _ => 0))), ((r 27), .inl (cI, 27000, .inl (fun _ => 0)))]) hD hS hA [0, 1, 2, 3, 4, 5, 6, 7, 8, 9, 10, 11, 12, 13, 14, 15, 16, 17, 18, 19, 20, 21, 22, 23, 24] rfl
      refine va_callv (va_runV (As := [.int 0, .int 4]) (rest := []) ⟨hx, hb, hml, hown, hts⟩ ((c_m_copy l dC dI cI cZ cB cJ cP cW r F0c 0 4 H1.size) (by decide) (by decide) (by decide) rfl) (cwV 2 hts g295_m_ahead_m_copy rfl rfl rfl (by decide +kernel) ⟨Nat.le_of_ble_eq_true rfl, Nat.le_of_ble_eq_true rfl⟩) ⟨fbM, va_recv hK hPc (ci := 8) (q0 := 0) rfl rfl, fun U hU hW => ⟨rfl, by rw [hU], hE.warm hW, by rw [hU]; exact hPc, hDc.weaken (fun _ _ _ _ => trivial)⟩⟩ rfl rfl hl.1 rfl (lv_room (Nat.le_of_ble_eq_true rfl)) dX8_ahead_28 ⟨Nat.le_of_ble_eq_true rfl, Nat.le_of_ble_eq_true rfl⟩) hS (fun q _ h => hFc q h) hFc (fun u7 t H8 locs ht hvm hr6 hB hz1 hk1 hS => ?_)
      obtain ⟨hP1, hD1⟩ := hB
      rw [ht] at hP1
      obtain ⟨hP, hD⟩ := va_join (wr := []) (w1 := [((r 0), .inr (8, [.int 0, .ref (r 1), .int 0, .ref (r 3), .ref (r 4), .ref (r 5), .ref (r 6), .ref (r 7), .ref (r 8), .ref (r 9), .ref (r 10), .ref (r 11), .ref (r 12), .ref (r 13), .ref (r 14), .ref (r 15), .ref (r 16), .ref (r 17), .ref (r 18), .ref (r 19), .ref (r 20), .ref (r 21), .ref (r 22), .ref (r 23), .ref (r 24), .ref (r 25), .ref (r 26), .ref (r 27), .ref (r 28), .ref (r 29), .int 0, .int 0, .int 0, .int 0, .int 0, .int 0, .int (-1), .int 0, .int 0, .int 0, .int 0, .int 0, .int 0, .ref (r 43), .ref (r 44), .ref (r 45), .int 0, .ref (r 47)])), ((r 14), .inl (cZ, 2000, .inl (u7 14))), ((r 6), .inl (cI, 5, .inl (u7 6))), ((r 7), .inl (cI, 5, .inl (u7 7))), ((r 8), .inl (cI, 100, .inl (u7 8))), ((r 9), .inl (cI, 110, .inl (u7 9))), ((r 10), .inl (cI, 110, .inl (u7 10))), ((r 11), .inl (cI, 110, .inl (u7 11))), ((r 12), .inl (cI, 600, .inl (u7 12))), ((r 13), .inl (cI, 5, .inl (u7 13))), ((r 15), .inl (cI, 80, .inl (u7 15))), ((r 16), .inl (cI, 5, .inl (u7 16))), ((r 17), .inl (cI, 30, .inl (u7 17))), ((r 18), .inl (cI, 30, .inl (u7 18))), ((r 19), .inl (cI, 30, .inl (u7 19))), ((r 20), .inl (cI, 30, .inl (u7 20))), ((r 21), .inl (cI, 30, .inl (u7 21))), ((r 22), .inl (cI, 30, .inl (u7 22))), ((r 23), .inl (cI, 30, .inl (u7 23))), ((r 24), .inl (cI, 30, .inl (u7 24))), ((r 25), .inl (cI, 780, .inl (u7 25))), ((r 28), .inl (cI, 5, .inl (u7 28))), ((r 29), .inl (cI, 18000, .inl (u7 29))), ((r 26), .inl (cB, 27000, .inl (u7 26))), ((r 27), .inl (cI, 27000, .inl (u7 27)))]) hP hD [0, 1, 2, 3, 4, 5, 6, 7, 8, 9, 10, 11, 12, 13, 14, 15, 16, 17, 18, 19, 20, 21, 22, 23, 24] [] rfl rfl (by decide) (by decide) hk1 hFc hP1 hD1
      have hP : va_P (dC, dI) vwCl [((r 0), .inr (8, [.int 0, .ref (r 1), .int 0, .ref (r 3), .ref (r 4), .ref (r 5), .ref (r 6), .ref (r 7), .ref (r 8), .ref (r 9), .ref (r 10), .ref (r 11), .ref (r 12), .ref (r 13), .ref (r 14), .ref (r 15), .ref (r 16), .ref (r 17), .ref (r 18), .ref (r 19), .ref (r 20), .ref (r 21), .ref (r 22), .ref (r 23), .ref (r 24), .ref (r 25), .ref (r 26), .ref (r 27), .ref (r 28), .ref (r 29), .int 0, .int 0, .int 0, .int 0, .int 0, .int 0, .int (-1), .int 0, .int 0, .int 0, .int 0, .int 0, .int 0, .ref (r 43), .ref (r 44), .ref (r 45), .int 0, .ref (r 47)])), ((r 14), .inl (cZ, 2000, .inl (u7 14))), ((r 6), .inl (cI, 5, .inl (u7 6))), ((r 7), .inl (cI, 5, .inl (u7 7))), ((r 8), .inl (cI, 100, .inl (u7 8))), ((r 9), .inl (cI, 110, .inl (u7 9))), ((r 10), .inl (cI, 110, .inl (u7 10))), ((r 11), .inl (cI, 110, .inl (u7 11))), ((r 12), .inl (cI, 600, .inl (u7 12))), ((r 13), .inl (cI, 5, .inl (u7 13))), ((r 15), .inl (cI, 80, .inl (u7 15))), ((r 16), .inl (cI, 5, .inl (u7 16))), ((r 17), .inl (cI, 30, .inl (u7 17))), ((r 18), .inl (cI, 30, .inl (u7 18))), ((r 19), .inl (cI, 30, .inl (u7 19))), ((r 20), .inl (cI, 30, .inl (u7 20))), ((r 21), .inl (cI, 30, .inl (u7 21))), ((r 22), .inl (cI, 30, .inl (u7 22))), ((r 23), .inl (cI, 30, .inl (u7 23))), ((r 24), .inl (cI, 30, .inl (u7 24))), ((r 25), .inl (cI, 780, .inl (u7 25))), ((r 28), .inl (cI, 5, .inl (u7 28))), ((r 29), .inl (cI, 18000, .inl (u7 29))), ((r 26), .inl (cB, 27000, .inl (u7 26))), ((r 27), .inl (cI, 27000, .inl (u7 27)))] H8 := hP
      have hD : va_D A [((r 0), .inr (8, [.int 0, .ref (r 1), .int 0, .ref (r 3), .ref (r 4), .ref (r 5), .ref (r 6), .ref (r 7), .ref (r 8), .ref (r 9), .ref (r 10), .ref (r 11), .ref (r 12), .ref (r 13), .ref (r 14), .ref (r 15), .ref (r 16), .ref (r 17), .ref (r 18), .ref (r 19), .ref (r 20), .ref (r 21), .ref (r 22), .ref (r 23), .ref (r 24), .ref (r 25), .ref (r 26), .ref (r 27), .ref (r 28), .ref (r 29), .int 0, .int 0, .int 0, .int 0, .int 0, .int 0, .int (-1), .int 0, .int 0, .int 0, .int 0, .int 0, .int 0, .ref (r 43), .ref (r 44), .ref (r 45), .int 0, .ref (r 47)])), ((r 14), .inl (cZ, 2000, .inl (u7 14))), ((r 6), .inl (cI, 5, .inl (u7 6))), ((r 7), .inl (cI, 5, .inl (u7 7))), ((r 8), .inl (cI, 100, .inl (u7 8))), ((r 9), .inl (cI, 110, .inl (u7 9))), ((r 10), .inl (cI, 110, .inl (u7 10))), ((r 11), .inl (cI, 110, .inl (u7 11))), ((r 12), .inl (cI, 600, .inl (u7 12))), ((r 13), .inl (cI, 5, .inl (u7 13))), ((r 15), .inl (cI, 80, .inl (u7 15))), ((r 16), .inl (cI, 5, .inl (u7 16))), ((r 17), .inl (cI, 30, .inl (u7 17))), ((r 18), .inl (cI, 30, .inl (u7 18))), ((r 19), .inl (cI, 30, .inl (u7 19))), ((r 20), .inl (cI, 30, .inl (u7 20))), ((r 21), .inl (cI, 30, .inl (u7 21))), ((r 22), .inl (cI, 30, .inl (u7 22))), ((r 23), .inl (cI, 30, .inl (u7 23))), ((r 24), .inl (cI, 30, .inl (u7 24))), ((r 25), .inl (cI, 780, .inl (u7 25))), ((r 28), .inl (cI, 5, .inl (u7 28))), ((r 29), .inl (cI, 18000, .inl (u7 29))), ((r 26), .inl (cB, 27000, .inl (u7 26))), ((r 27), .inl (cI, 27000, .inl (u7 27)))] := hD
      refine lv_iconst (v := (-1)) hx hb dX8_ahead_31 (by decide) ?_
      refine lv_istore_n (lv' := [(3, .int (-1)), (0, .ref (r 0)), (1, .int n), (2, .int w)]) hx hb dX8_ahead_32 rfl hl (by decide) rfl (fun ls hl => ?_)
      refine lv_iconst (v := 0) hx hb dX8_ahead_33 (by decide) ?_
      refine lv_istore (lv' := [(4, .int 0), (3, .int (-1)), (0, .ref (r 0)), (1, .int n), (2, .int w)]) hx hb dX8_ahead_34 hl (by decide) rfl (fun ls hl => ?_)
      have hl := lv_sub hl [2, 3, 4, 1, 0] rfl
      refine W_loop (σ := Nat × (Nat → Int32)) (fun x9 => match x9 with | (j, gd) => K - j) (fun x9 H9 locs ls => match x9 with | (j, gd) => (j ≤ K) ∧ va_P (dC, dI) vwCl [((r 0), .inr (8, [.int 0, .ref (r 1), .int 0, .ref (r 3), .ref (r 4), .ref (r 5), .ref (r 6), .ref (r 7), .ref (r 8), .ref (r 9), .ref (r 10), .ref (r 11), .ref (r 12), .ref (r 13), .ref (r 14), .ref (r 15), .ref (r 16), .ref (r 17), .ref (r 18), .ref (r 19), .ref (r 20), .ref (r 21), .ref (r 22), .ref (r 23), .ref (r 24), .ref (r 25), .ref (r 26), .ref (r 27), .ref (r 28), .ref (r 29), .int 0, .int 0, .int 0, .int 0, .int 0, .int 0, .int (-1), .int 0, .int 0, .int 0, .int 0, .int 0, .int 0, .ref (r 43), .ref (r 44), .ref (r 45), .int 0, .ref (r 47)])), ((r 14), .inl (cZ, 2000, .inl (u7 14))), ((r 6), .inl (cI, 5, .inl (u7 6))), ((r 7), .inl (cI, 5, .inl (u7 7))), ((r 8), .inl (cI, 100, .inl (u7 8))), ((r 9), .inl (cI, 110, .inl (u7 9))), ((r 10), .inl (cI, 110, .inl (u7 10))), ((r 11), .inl (cI, 110, .inl (u7 11))), ((r 12), .inl (cI, 600, .inl (u7 12))), ((r 13), .inl (cI, 5, .inl gd)), ((r 15), .inl (cI, 80, .inl (u7 15))), ((r 16), .inl (cI, 5, .inl (u7 16))), ((r 17), .inl (cI, 30, .inl (u7 17))), ((r 18), .inl (cI, 30, .inl (u7 18))), ((r 19), .inl (cI, 30, .inl (u7 19))), ((r 20), .inl (cI, 30, .inl (u7 20))), ((r 21), .inl (cI, 30, .inl (u7 21))), ((r 22), .inl (cI, 30, .inl (u7 22))), ((r 23), .inl (cI, 30, .inl (u7 23))), ((r 24), .inl (cI, 30, .inl (u7 24))), ((r 25), .inl (cI, 780, .inl (u7 25))), ((r 28), .inl (cI, 5, .inl (u7 28))), ((r 29), .inl (cI, 18000, .inl (u7 29))), ((r 26), .inl (cB, 27000, .inl (u7 26))), ((r 27), .inl (cI, 27000, .inl (u7 27)))] H9 ∧ va_D A [((r 0), .inr (8, [.int 0, .ref (r 1), .int 0, .ref (r 3), .ref (r 4), .ref (r 5), .ref (r 6), .ref (r 7), .ref (r 8), .ref (r 9), .ref (r 10), .ref (r 11), .ref (r 12), .ref (r 13), .ref (r 14), .ref (r 15), .ref (r 16), .ref (r 17), .ref (r 18), .ref (r 19), .ref (r 20), .ref (r 21), .ref (r 22), .ref (r 23), .ref (r 24), .ref (r 25), .ref (r 26), .ref (r 27), .ref (r 28), .ref (r 29), .int 0, .int 0, .int 0, .int 0, .int 0, .int 0, .int (-1), .int 0, .int 0, .int 0, .int 0, .int 0, .int 0, .ref (r 43), .ref (r 44), .ref (r 45), .int 0, .ref (r 47)])), ((r 14), .inl (cZ, 2000, .inl (u7 14))), ((r 6), .inl (cI, 5, .inl (u7 6))), ((r 7), .inl (cI, 5, .inl (u7 7))), ((r 8), .inl (cI, 100, .inl (u7 8))), ((r 9), .inl (cI, 110, .inl (u7 9))), ((r 10), .inl (cI, 110, .inl (u7 10))), ((r 11), .inl (cI, 110, .inl (u7 11))), ((r 12), .inl (cI, 600, .inl (u7 12))), ((r 13), .inl (cI, 5, .inl gd)), ((r 15), .inl (cI, 80, .inl (u7 15))), ((r 16), .inl (cI, 5, .inl (u7 16))), ((r 17), .inl (cI, 30, .inl (u7 17))), ((r 18), .inl (cI, 30, .inl (u7 18))), ((r 19), .inl (cI, 30, .inl (u7 19))), ((r 20), .inl (cI, 30, .inl (u7 20))), ((r 21), .inl (cI, 30, .inl (u7 21))), ((r 22), .inl (cI, 30, .inl (u7 22))), ((r 23), .inl (cI, 30, .inl (u7 23))), ((r 24), .inl (cI, 30, .inl (u7 24))), ((r 25), .inl (cI, 780, .inl (u7 25))), ((r 28), .inl (cI, 5, .inl (u7 28))), ((r 29), .inl (cI, 18000, .inl (u7 29))), ((r 26), .inl (cB, 27000, .inl (u7 26))), ((r 27), .inl (cI, 27000, .inl (u7 27)))] ∧ va_S A s.heap H9 locs ∧ lv_has ls 6 [(0, .ref (r 0)), (1, .int n), (2, .int w), (3, .int (-1)), (4, .int (nI j))]) (fun x9 H9 locs ls hI9 ih => ?_) (0, u7 13) _ _ _ ⟨Nat.zero_le _, hP.sub [0, 1, 2, 3, 4, 5, 6, 7, 8, 9, 10, 11, 12, 13, 14, 15, 16, 17, 18, 19, 20, 21, 22, 23, 24] rfl, hD.sub [0, 1, 2, 3, 4, 5, 6, 7, 8, 9, 10, 11, 12, 13, 14, 15, 16, 17, 18, 19, 20, 21, 22, 23, 24] (by decide) rfl, hS, hl⟩
      obtain ⟨j, gd⟩ := x9
      dsimp only at hI9
      obtain ⟨hinv, hP, hD, hS, hl⟩ := hI9
      refine lv_iload hx hb dX8_ahead_36 (lv_at hl 4 rfl) ?_
      refine lv_iload_n hx hb dX8_ahead_38 rfl (lv_at hl 1 rfl) ?_
      refine lv_icmp_ge (tgt := 114) hx hb dX8_ahead_39 (by decide) (fun c10 => ?_) (fun c10 => ?_)
      · refine lv_iload_n hx hb dX8_ahead_114 rfl (lv_at hl 2 rfl) ?_
        refine lv_if_ne (tgt := 122) hx hb dX8_ahead_115 (by decide) (fun c11 => ?_) (fun c11 => ?_)
        · refine lv_iload_n hx hb dX8_ahead_122 rfl (lv_at hl 2 rfl) ?_
          refine lv_iconst (v := 1) hx hb dX8_ahead_123 (by decide) ?_
          refine lv_icmp_ne (tgt := 134) hx hb dX8_ahead_124 (by decide) (fun c12 => ?_) (fun c12 => ?_)
          · refine lv_aload_n hx hb dX8_ahead_134 rfl (lv_at hl 0 rfl) ?_
            have hPc := hP.sub (ws' := [((r 0), .inr (8, [.int 0, .ref (r 1), .int 0, .ref (r 3), .ref (r 4), .ref (r 5), .ref (r 6), .ref (r 7), .ref (r 8), .ref (r 9), .ref (r 10), .ref (r 11), .ref (r 12), .ref (r 13), .ref (r 14), .ref (r 15), .ref (r 16), .ref (r 17), .ref (r 18), .ref (r 19), .ref (r 20), .ref (r 21), .ref (r 22), .ref (r 23), .ref (r 24), .ref (r 25), .ref (r 26), .ref (r 27), .ref (r 28), .ref (r 29), .int 0, .int 0, .int 0, .int 0, .int 0, .int 0, .int (-1), .int 0, .int 0, .int 0, .int 0, .int 0, .int 0, .ref (r 43), .ref (r 44), .ref (r 45), .int 0, .ref (r 47)])), ((r 11), .inl (cI, 110, .inl (u7 11)))]) [0, 7] rfl
            refine vp_callSi (va_Run.run (va_runV (As := []) (rest := []) ⟨hx, hb, hml, hown, hts⟩ ((c_stored l dC dI cI cZ cB cJ cP cW r (u7 11)) (fun j hj => hr6.2.2.2.2 j (by omega))) (cwV 0 hts g301_m_ahead_stored rfl rfl rfl (by decide +kernel) ⟨Nat.le_of_ble_eq_true rfl, Nat.le_of_ble_eq_true rfl⟩) ⟨fbR, va_recv hK hPc (ci := 8) (q0 := 0) rfl rfl, fun U hU hW => ⟨rfl, hE.warm hW, by rw [hU]; exact hPc⟩⟩ rfl rfl hl.1 rfl (lv_room (Nat.le_of_ble_eq_true rfl)) dX8_ahead_135 ⟨Nat.le_of_ble_eq_true rfl, Nat.le_of_ble_eq_true rfl⟩)) (fun r13 hr13 => ?_)
            obtain rfl : r13 = 0 := hr13
            refine lv_istore (lv' := [(4, .int 0), (0, .ref (r 0)), (1, .int n), (2, .int w), (3, .int (-1))]) hx hb dX8_ahead_138 hl (by decide) rfl (fun ls hl => ?_)
            refine lv_aload_n hx hb dX8_ahead_140 rfl (lv_at hl 1 rfl) ?_
            refine lv_iconst (v := 4) hx hb dX8_ahead_141 (by decide) ?_
            refine lv_iconst (v := 0) hx hb dX8_ahead_142 (by decide) ?_
            have hPc := hP.sub (ws' := [((r 0), .inr (8, [.int 0, .ref (r 1), .int 0, .ref (r 3), .ref (r 4), .ref (r 5), .ref (r 6), .ref (r 7), .ref (r 8), .ref (r 9), .ref (r 10), .ref (r 11), .ref (r 12), .ref (r 13), .ref (r 14), .ref (r 15), .ref (r 16), .ref (r 17), .ref (r 18), .ref (r 19), .ref (r 20), .ref (r 21), .ref (r 22), .ref (r 23), .ref (r 24), .ref (r 25), .ref (r 26), .ref (r 27), .ref (r 28), .ref (r 29), .int 0, .int 0, .int 0, .int 0, .int 0, .int 0, .int (-1), .int 0, .int 0, .int 0, .int 0, .int 0, .int 0, .ref (r 43), .ref (r 44), .ref (r 45), .int 0, .ref (r 47)])), ((r 14), .inl (cZ, 2000, .inl (u7 14))), ((r 6), .inl (cI, 5, .inl (u7 6))), ((r 7), .inl (cI, 5, .inl (u7 7))), ((r 8), .inl (cI, 100, .inl (u7 8))), ((r 9), .inl (cI, 110, .inl (u7 9))), ((r 10), .inl (cI, 110, .inl (u7 10))), ((r 11), .inl (cI, 110, .inl (u7 11))), ((r 12), .inl (cI, 600, .inl (u7 12))), ((r 13), .inl (cI, 5, .inl gd)), ((r 15), .inl (cI, 80, .inl (u7 15))), ((r 16), .inl (cI, 5, .inl (u7 16))), ((r 17), .inl (cI, 30, .inl (u7 17))), ((r 18), .inl (cI, 30, .inl (u7 18))), ((r 19), .inl (cI, 30, .inl (u7 19))), ((r 20), .inl (cI, 30, .inl (u7 20))), ((r 21), .inl (cI, 30, .inl (u7 21))), ((r 22), .inl (cI, 30, .inl (u7 22))), ((r 23), .inl (cI, 30, .inl (u7 23))), ((r 24), .inl (cI, 30, .inl (u7 24))), ((r 25), .inl (cI, 780, .inl (u7 25))), ((r 28), .inl (cI, 5, .inl (u7 28))), ((r 29), .inl (cI, 18000, .inl (u7 29))), ((r 26), .inl (cB, 27000, .inl (u7 26))), ((r 27), .inl (cI, 27000, .inl (u7 27)))]) [0, 1, 2, 3, 4, 5, 6, 7, 8, 9, 10, 11, 12, 13, 14, 15, 16, 17, 18, 19, 20, 21, 22, 23, 24] rfl
            have hDc := hD.sub (ws' := [((r 0), .inr (8, [.int 0, .ref (r 1), .int 0, .ref (r 3), .ref (r 4), .ref (r 5), .ref (r 6), .ref (r 7), .ref (r 8), .ref (r 9), .ref (r 10), .ref (r 11), .ref (r 12), .ref (r 13), .ref (r 14), .ref (r 15), .ref (r 16), .ref (r 17), .ref (r 18), .ref (r 19), .ref (r 20), .ref (r 21), .ref (r 22), .ref (r 23), .ref (r 24), .ref (r 25), .ref (r 26), .ref (r 27), .ref (r 28), .ref (r 29), .int 0, .int 0, .int 0, .int 0, .int 0, .int 0, .int (-1), .int 0, .int 0, .int 0, .int 0, .int 0, .int 0, .ref (r 43), .ref (r 44), .ref (r 45), .int 0, .ref (r 47)])), ((r 14), .inl (cZ, 2000, .inl (u7 14))), ((r 6), .inl (cI, 5, .inl (u7 6))), ((r 7), .inl (cI, 5, .inl (u7 7))), ((r 8), .inl (cI, 100, .inl (u7 8))), ((r 9), .inl (cI, 110, .inl (u7 9))), ((r 10), .inl (cI, 110, .inl (u7 10))), ((r 11), .inl (cI, 110, .inl (u7 11))), ((r 12), .inl (cI, 600, .inl (u7 12))), ((r 13), .inl (cI, 5, .inl gd)), ((r 15), .inl (cI, 80, .inl (u7 15))), ((r 16), .inl (cI, 5, .inl (u7 16))), ((r 17), .inl (cI, 30, .inl (u7 17))), ((r 18), .inl (cI, 30, .inl (u7 18))), ((r 19), .inl (cI, 30, .inl (u7 19))), ((r 20), .inl (cI, 30, .inl (u7 20))), ((r 21), .inl (cI, 30, .inl (u7 21))), ((r 22), .inl (cI, 30, .inl (u7 22))), ((r 23), .inl (cI, 30, .inl (u7 23))), ((r 24), .inl (cI, 30, .inl (u7 24))), ((r 25), .inl (cI, 780, .inl (u7 25))), ((r 28), .inl (cI, 5, .inl (u7 28))), ((r 29), .inl (cI, 18000, .inl (u7 29))), ((r 26), .inl (cB, 27000, .inl (u7 26))), ((r 27), .inl (cI, 27000, .inl (u7 27)))]) [0, 1, 2, 3, 4, 5, 6, 7, 8, 9, 10, 11, 12, 13, 14, 15, 16, 17, 18, 19, 20, 21, 22, 23, 24] (by decide) rfl
            have hFc := va_free (wc := [((r 0), .inr (8, [.int 0, .ref (r 1), .int 0, .ref (r 3), .ref (r 4), .ref (r 5), .ref (r 6), .ref (r 7), .ref (r 8), .ref (r 9), .ref (r 10), .ref (r 11), .ref (r 12), .ref (r 13), .ref (r 14), .ref (r 15), .ref (r 16), .ref (r 17), .ref (r 18), .ref (r 19), .ref (r 20), .ref (r 21), .ref (r 22), .ref (r 23), .ref (r 24), .ref (r 25), .ref (r 26), .ref (r 27), .ref (r 28), .ref (r 29), .int 0, .int 0, .int 0, .int 0, .int 0, .int 0, .int (-1), .int 0, .int 0, .int 0, .int 0, .int 0, .int 0, .ref (r 43), .ref (r 44), .ref (r 45), .int 0, .ref (r 47)])), ((r 14), .inl (cZ, 2000, .inl (u7 14))), ((r 6), .inl (cI, 5, .inl (u7 6))), ((r 7), .inl (cI, 5, .inl (u7 7))), ((r 8), .inl (cI, 100, .inl (u7 8))), ((r 9), .inl (cI, 110, .inl (u7 9))), ((r 10), .inl (cI, 110, .inl (u7 10))), ((r 11), .inl (cI, 110, .inl (u7 11))), ((r 12), .inl (cI, 600, .inl (u7 12))), ((r 13), .inl (cI, 5, .inl gd)), ((r 15), .inl (cI, 80, .inl (u7 15))), ((r 16), .inl (cI, 5, .inl (u7 16))), ((r 17), .inl (cI, 30, .inl (u7 17))), ((r 18), .inl (cI, 30, .inl (u7 18))), ((r 19), .inl (cI, 30, .inl (u7 19))), ((r 20), .inl (cI, 30, .inl (u7 20))), ((r 21), .inl (cI, 30, .inl (u7 21))), ((r 22), .inl (cI, 30, .inl (u7 22))), ((r 23), .inl (cI, 30, .inl (u7 23))), ((r 24), .inl (cI, 30, .inl (u7 24))), ((r 25), .inl (cI, 780, .inl (u7 25))), ((r 28), .inl (cI, 5, .inl (u7 28))), ((r 29), .inl (cI, 18000, .inl (u7 29))), ((r 26), .inl (cB, 27000, .inl (u7 26))), ((r 27), .inl (cI, 27000, .inl (u7 27)))]) hD hS hA [0, 1, 2, 3, 4, 5, 6, 7, 8, 9, 10, 11, 12, 13, 14, 15, 16, 17, 18, 19, 20, 21, 22, 23, 24] rfl
            refine va_callv (va_runV (As := [.int 4, .int 0]) (rest := []) ⟨hx, hb, hml, hown, hts⟩ ((c_m_copy l dC dI cI cZ cB cJ cP cW r (fun k => if k = 13 then gd else u7 k) 4 0 H9.size) (by decide) (by decide) (by decide) hr6.2.1) (cwV 2 hts g295_m_ahead_m_copy rfl rfl rfl (by decide +kernel) ⟨Nat.le_of_ble_eq_true rfl, Nat.le_of_ble_eq_true rfl⟩) ⟨fbM, va_recv hK hPc (ci := 8) (q0 := 0) rfl rfl, fun U hU hW => ⟨rfl, by rw [hU], hE.warm hW, by rw [hU]; exact hPc, hDc.weaken (fun _ _ _ _ => trivial)⟩⟩ rfl rfl hl.1 rfl (lv_room (Nat.le_of_ble_eq_true rfl)) dX8_ahead_143 ⟨Nat.le_of_ble_eq_true rfl, Nat.le_of_ble_eq_true rfl⟩) hS (fun q _ h => hFc q h) hFc (fun u15 t H16 locs ht hvm hr14 hB hz1 hk1 hS => ?_)
            obtain ⟨hP1, hD1⟩ := hB
            rw [ht] at hP1
            obtain ⟨hP, hD⟩ := va_join (wr := []) (w1 := [((r 0), .inr (8, [.int 0, .ref (r 1), .int 0, .ref (r 3), .ref (r 4), .ref (r 5), .ref (r 6), .ref (r 7), .ref (r 8), .ref (r 9), .ref (r 10), .ref (r 11), .ref (r 12), .ref (r 13), .ref (r 14), .ref (r 15), .ref (r 16), .ref (r 17), .ref (r 18), .ref (r 19), .ref (r 20), .ref (r 21), .ref (r 22), .ref (r 23), .ref (r 24), .ref (r 25), .ref (r 26), .ref (r 27), .ref (r 28), .ref (r 29), .int 0, .int 0, .int 0, .int 0, .int 0, .int 0, .int (-1), .int 0, .int 0, .int 0, .int 0, .int 0, .int 0, .ref (r 43), .ref (r 44), .ref (r 45), .int 0, .ref (r 47)])), ((r 14), .inl (cZ, 2000, .inl (u15 14))), ((r 6), .inl (cI, 5, .inl (u15 6))), ((r 7), .inl (cI, 5, .inl (u15 7))), ((r 8), .inl (cI, 100, .inl (u15 8))), ((r 9), .inl (cI, 110, .inl (u15 9))), ((r 10), .inl (cI, 110, .inl (u15 10))), ((r 11), .inl (cI, 110, .inl (u15 11))), ((r 12), .inl (cI, 600, .inl (u15 12))), ((r 13), .inl (cI, 5, .inl (u15 13))), ((r 15), .inl (cI, 80, .inl (u15 15))), ((r 16), .inl (cI, 5, .inl (u15 16))), ((r 17), .inl (cI, 30, .inl (u15 17))), ((r 18), .inl (cI, 30, .inl (u15 18))), ((r 19), .inl (cI, 30, .inl (u15 19))), ((r 20), .inl (cI, 30, .inl (u15 20))), ((r 21), .inl (cI, 30, .inl (u15 21))), ((r 22), .inl (cI, 30, .inl (u15 22))), ((r 23), .inl (cI, 30, .inl (u15 23))), ((r 24), .inl (cI, 30, .inl (u15 24))), ((r 25), .inl (cI, 780, .inl (u15 25))), ((r 28), .inl (cI, 5, .inl (u15 28))), ((r 29), .inl (cI, 18000, .inl (u15 29))), ((r 26), .inl (cB, 27000, .inl (u15 26))), ((r 27), .inl (cI, 27000, .inl (u15 27)))]) hP hD [0, 1, 2, 3, 4, 5, 6, 7, 8, 9, 10, 11, 12, 13, 14, 15, 16, 17, 18, 19, 20, 21, 22, 23, 24] [] rfl rfl (by decide) (by decide) hk1 hFc hP1 hD1
            have hP : va_P (dC, dI) vwCl [((r 0), .inr (8, [.int 0, .ref (r 1), .int 0, .ref (r 3), .ref (r 4), .ref (r 5), .ref (r 6), .ref (r 7), .ref (r 8), .ref (r 9), .ref (r 10), .ref (r 11), .ref (r 12), .ref (r 13), .ref (r 14), .ref (r 15), .ref (r 16), .ref (r 17), .ref (r 18), .ref (r 19), .ref (r 20), .ref (r 21), .ref (r 22), .ref (r 23), .ref (r 24), .ref (r 25), .ref (r 26), .ref (r 27), .ref (r 28), .ref (r 29), .int 0, .int 0, .int 0, .int 0, .int 0, .int 0, .int (-1), .int 0, .int 0, .int 0, .int 0, .int 0, .int 0, .ref (r 43), .ref (r 44), .ref (r 45), .int 0, .ref (r 47)])), ((r 14), .inl (cZ, 2000, .inl (u15 14))), ((r 6), .inl (cI, 5, .inl (u15 6))), ((r 7), .inl (cI, 5, .inl (u15 7))), ((r 8), .inl (cI, 100, .inl (u15 8))), ((r 9), .inl (cI, 110, .inl (u15 9))), ((r 10), .inl (cI, 110, .inl (u15 10))), ((r 11), .inl (cI, 110, .inl (u15 11))), ((r 12), .inl (cI, 600, .inl (u15 12))), ((r 13), .inl (cI, 5, .inl (u15 13))), ((r 15), .inl (cI, 80, .inl (u15 15))), ((r 16), .inl (cI, 5, .inl (u15 16))), ((r 17), .inl (cI, 30, .inl (u15 17))), ((r 18), .inl (cI, 30, .inl (u15 18))), ((r 19), .inl (cI, 30, .inl (u15 19))), ((r 20), .inl (cI, 30, .inl (u15 20))), ((r 21), .inl (cI, 30, .inl (u15 21))), ((r 22), .inl (cI, 30, .inl (u15 22))), ((r 23), .inl (cI, 30, .inl (u15 23))), ((r 24), .inl (cI, 30, .inl (u15 24))), ((r 25), .inl (cI, 780, .inl (u15 25))), ((r 28), .inl (cI, 5, .inl (u15 28))), ((r 29), .inl (cI, 18000, .inl (u15 29))), ((r 26), .inl (cB, 27000, .inl (u15 26))), ((r 27), .inl (cI, 27000, .inl (u15 27)))] H16 := hP
            have hD : va_D A [((r 0), .inr (8, [.int 0, .ref (r 1), .int 0, .ref (r 3), .ref (r 4), .ref (r 5), .ref (r 6), .ref (r 7), .ref (r 8), .ref (r 9), .ref (r 10), .ref (r 11), .ref (r 12), .ref (r 13), .ref (r 14), .ref (r 15), .ref (r 16), .ref (r 17), .ref (r 18), .ref (r 19), .ref (r 20), .ref (r 21), .ref (r 22), .ref (r 23), .ref (r 24), .ref (r 25), .ref (r 26), .ref (r 27), .ref (r 28), .ref (r 29), .int 0, .int 0, .int 0, .int 0, .int 0, .int 0, .int (-1), .int 0, .int 0, .int 0, .int 0, .int 0, .int 0, .ref (r 43), .ref (r 44), .ref (r 45), .int 0, .ref (r 47)])), ((r 14), .inl (cZ, 2000, .inl (u15 14))), ((r 6), .inl (cI, 5, .inl (u15 6))), ((r 7), .inl (cI, 5, .inl (u15 7))), ((r 8), .inl (cI, 100, .inl (u15 8))), ((r 9), .inl (cI, 110, .inl (u15 9))), ((r 10), .inl (cI, 110, .inl (u15 10))), ((r 11), .inl (cI, 110, .inl (u15 11))), ((r 12), .inl (cI, 600, .inl (u15 12))), ((r 13), .inl (cI, 5, .inl (u15 13))), ((r 15), .inl (cI, 80, .inl (u15 15))), ((r 16), .inl (cI, 5, .inl (u15 16))), ((r 17), .inl (cI, 30, .inl (u15 17))), ((r 18), .inl (cI, 30, .inl (u15 18))), ((r 19), .inl (cI, 30, .inl (u15 19))), ((r 20), .inl (cI, 30, .inl (u15 20))), ((r 21), .inl (cI, 30, .inl (u15 21))), ((r 22), .inl (cI, 30, .inl (u15 22))), ((r 23), .inl (cI, 30, .inl (u15 23))), ((r 24), .inl (cI, 30, .inl (u15 24))), ((r 25), .inl (cI, 780, .inl (u15 25))), ((r 28), .inl (cI, 5, .inl (u15 28))), ((r 29), .inl (cI, 18000, .inl (u15 29))), ((r 26), .inl (cB, 27000, .inl (u15 26))), ((r 27), .inl (cI, 27000, .inl (u15 27)))] := hD
            refine lv_iload hx hb dX8_ahead_146 (lv_at hl 0 rfl) ?_
            have hP9 := hP.sub (ws' := []) [] rfl
            have hD9 := hD.sub (ws' := []) [] (by decide) rfl
            refine W.widen (k := 0) (n := 0) (by decide) (by decide) ?_
            exact W.iret (v := 0) hx hb hr (fun t ht hW => ⟨⟨0, (), rfl, (by rw [if_neg c3, if_neg c5]; simp [c11, c12]), by rw [ht]; exact hP9, hD9⟩, hS.F ht⟩) hS.2.2 dX8_ahead_148
          · refine lv_aload_n hx hb dX8_ahead_127 rfl (lv_at hl 0 rfl) ?_
            have hPc := hP.sub (ws' := [((r 0), .inr (8, [.int 0, .ref (r 1), .int 0, .ref (r 3), .ref (r 4), .ref (r 5), .ref (r 6), .ref (r 7), .ref (r 8), .ref (r 9), .ref (r 10), .ref (r 11), .ref (r 12), .ref (r 13), .ref (r 14), .ref (r 15), .ref (r 16), .ref (r 17), .ref (r 18), .ref (r 19), .ref (r 20), .ref (r 21), .ref (r 22), .ref (r 23), .ref (r 24), .ref (r 25), .ref (r 26), .ref (r 27), .ref (r 28), .ref (r 29), .int 0, .int 0, .int 0, .int 0, .int 0, .int 0, .int (-1), .int 0, .int 0, .int 0, .int 0, .int 0, .int 0, .ref (r 43), .ref (r 44), .ref (r 45), .int 0, .ref (r 47)])), ((r 16), .inl (cI, 5, .inl (u7 16)))]) [0, 11] rfl
            refine vp_callSi (va_Run.run (va_runV (As := []) (rest := []) ⟨hx, hb, hml, hown, hts⟩ ((c_lost l dC dI cI cZ cB cJ cP cW r (u7 16)) (hr6.2.2.2.1 0 (by decide))) (cwV 0 hts g298_m_ahead_lost rfl rfl rfl (by decide +kernel) ⟨Nat.le_of_ble_eq_true rfl, Nat.le_of_ble_eq_true rfl⟩) ⟨fbR, va_recv hK hPc (ci := 8) (q0 := 0) rfl rfl, fun U hU hW => ⟨rfl, hE.warm hW, by rw [hU]; exact hPc⟩⟩ rfl rfl hl.1 rfl (lv_room (Nat.le_of_ble_eq_true rfl)) dX8_ahead_128 ⟨Nat.le_of_ble_eq_true rfl, Nat.le_of_ble_eq_true rfl⟩)) (fun r17 hr17 => ?_)
            obtain rfl : r17 = 0 := hr17
            refine lv_goto (tgt := 138) hx hb dX8_ahead_131 (by decide) ?_
            refine lv_istore (lv' := [(4, .int 0), (0, .ref (r 0)), (1, .int n), (2, .int w), (3, .int (-1))]) hx hb dX8_ahead_138 hl (by decide) rfl (fun ls hl => ?_)
            refine lv_aload_n hx hb dX8_ahead_140 rfl (lv_at hl 1 rfl) ?_
            refine lv_iconst (v := 4) hx hb dX8_ahead_141 (by decide) ?_
            refine lv_iconst (v := 0) hx hb dX8_ahead_142 (by decide) ?_
            have hPc := hP.sub (ws' := [((r 0), .inr (8, [.int 0, .ref (r 1), .int 0, .ref (r 3), .ref (r 4), .ref (r 5), .ref (r 6), .ref (r 7), .ref (r 8), .ref (r 9), .ref (r 10), .ref (r 11), .ref (r 12), .ref (r 13), .ref (r 14), .ref (r 15), .ref (r 16), .ref (r 17), .ref (r 18), .ref (r 19), .ref (r 20), .ref (r 21), .ref (r 22), .ref (r 23), .ref (r 24), .ref (r 25), .ref (r 26), .ref (r 27), .ref (r 28), .ref (r 29), .int 0, .int 0, .int 0, .int 0, .int 0, .int 0, .int (-1), .int 0, .int 0, .int 0, .int 0, .int 0, .int 0, .ref (r 43), .ref (r 44), .ref (r 45), .int 0, .ref (r 47)])), ((r 14), .inl (cZ, 2000, .inl (u7 14))), ((r 6), .inl (cI, 5, .inl (u7 6))), ((r 7), .inl (cI, 5, .inl (u7 7))), ((r 8), .inl (cI, 100, .inl (u7 8))), ((r 9), .inl (cI, 110, .inl (u7 9))), ((r 10), .inl (cI, 110, .inl (u7 10))), ((r 11), .inl (cI, 110, .inl (u7 11))), ((r 12), .inl (cI, 600, .inl (u7 12))), ((r 13), .inl (cI, 5, .inl gd)), ((r 15), .inl (cI, 80, .inl (u7 15))), ((r 16), .inl (cI, 5, .inl (u7 16))), ((r 17), .inl (cI, 30, .inl (u7 17))), ((r 18), .inl (cI, 30, .inl (u7 18))), ((r 19), .inl (cI, 30, .inl (u7 19))), ((r 20), .inl (cI, 30, .inl (u7 20))), ((r 21), .inl (cI, 30, .inl (u7 21))), ((r 22), .inl (cI, 30, .inl (u7 22))), ((r 23), .inl (cI, 30, .inl (u7 23))), ((r 24), .inl (cI, 30, .inl (u7 24))), ((r 25), .inl (cI, 780, .inl (u7 25))), ((r 28), .inl (cI, 5, .inl (u7 28))), ((r 29), .inl (cI, 18000, .inl (u7 29))), ((r 26), .inl (cB, 27000, .inl (u7 26))), ((r 27), .inl (cI, 27000, .inl (u7 27)))]) [0, 1, 2, 3, 4, 5, 6, 7, 8, 9, 10, 11, 12, 13, 14, 15, 16, 17, 18, 19, 20, 21, 22, 23, 24] rfl
            have hDc := hD.sub (ws' := [((r 0), .inr (8, [.int 0, .ref (r 1), .int 0, .ref (r 3), .ref (r 4), .ref (r 5), .ref (r 6), .ref (r 7), .ref (r 8), .ref (r 9), .ref (r 10), .ref (r 11), .ref (r 12), .ref (r 13), .ref (r 14), .ref (r 15), .ref (r 16), .ref (r 17), .ref (r 18), .ref (r 19), .ref (r 20), .ref (r 21), .ref (r 22), .ref (r 23), .ref (r 24), .ref (r 25), .ref (r 26), .ref (r 27), .ref (r 28), .ref (r 29), .int 0, .int 0, .int 0, .int 0, .int 0, .int 0, .int (-1), .int 0, .int 0, .int 0, .int 0, .int 0, .int 0, .ref (r 43), .ref (r 44), .ref (r 45), .int 0, .ref (r 47)])), ((r 14), .inl (cZ, 2000, .inl (u7 14))), ((r 6), .inl (cI, 5, .inl (u7 6))), ((r 7), .inl (cI, 5, .inl (u7 7))), ((r 8), .inl (cI, 100, .inl (u7 8))), ((r 9), .inl (cI, 110, .inl (u7 9))), ((r 10), .inl (cI, 110, .inl (u7 10))), ((r 11), .inl (cI, 110, .inl (u7 11))), ((r 12), .inl (cI, 600, .inl (u7 12))), ((r 13), .inl (cI, 5, .inl gd)), ((r 15), .inl (cI, 80, .inl (u7 15))), ((r 16), .inl (cI, 5, .inl (u7 16))), ((r 17), .inl (cI, 30, .inl (u7 17))), ((r 18), .inl (cI, 30, .inl (u7 18))), ((r 19), .inl (cI, 30, .inl (u7 19))), ((r 20), .inl (cI, 30, .inl (u7 20))), ((r 21), .inl (cI, 30, .inl (u7 21))), ((r 22), .inl (cI, 30, .inl (u7 22))), ((r 23), .inl (cI, 30, .inl (u7 23))), ((r 24), .inl (cI, 30, .inl (u7 24))), ((r 25), .inl (cI, 780, .inl (u7 25))), ((r 28), .inl (cI, 5, .inl (u7 28))), ((r 29), .inl (cI, 18000, .inl (u7 29))), ((r 26), .inl (cB, 27000, .inl (u7 26))), ((r 27), .inl (cI, 27000, .inl (u7 27)))]) [0, 1, 2, 3, 4, 5, 6, 7, 8, 9, 10, 11, 12, 13, 14, 15, 16, 17, 18, 19, 20, 21, 22, 23, 24] (by decide) rfl
            have hFc := va_free (wc := [((r 0), .inr (8, [.int 0, .ref (r 1), .int 0, .ref (r 3), .ref (r 4), .ref (r 5), .ref (r 6), .ref (r 7), .ref (r 8), .ref (r 9), .ref (r 10), .ref (r 11), .ref (r 12), .ref (r 13), .ref (r 14), .ref (r 15), .ref (r 16), .ref (r 17), .ref (r 18), .ref (r 19), .ref (r 20), .ref (r 21), .ref (r 22), .ref (r 23), .ref (r 24), .ref (r 25), .ref (r 26), .ref (r 27), .ref (r 28), .ref (r 29), .int 0, .int 0, .int 0, .int 0, .int 0, .int 0, .int (-1), .int 0, .int 0, .int 0, .int 0, .int 0, .int 0, .ref (r 43), .ref (r 44), .ref (r 45), .int 0, .ref (r 47)])), ((r 14), .inl (cZ, 2000, .inl (u7 14))), ((r 6), .inl (cI, 5, .inl (u7 6))), ((r 7), .inl (cI, 5, .inl (u7 7))), ((r 8), .inl (cI, 100, .inl (u7 8))), ((r 9), .inl (cI, 110, .inl (u7 9))), ((r 10), .inl (cI, 110, .inl (u7 10))), ((r 11), .inl (cI, 110, .inl (u7 11))), ((r 12), .inl (cI, 600, .inl (u7 12))), ((r 13), .inl (cI, 5, .inl gd)), ((r 15), .inl (cI, 80, .inl (u7 15))), ((r 16), .inl (cI, 5, .inl (u7 16))), ((r 17), .inl (cI, 30, .inl (u7 17))), ((r 18), .inl (cI, 30, .inl (u7 18))), ((r 19), .inl (cI, 30, .inl (u7 19))), ((r 20), .inl (cI, 30, .inl (u7 20))), ((r 21), .inl (cI, 30, .inl (u7 21))), ((r 22), .inl (cI, 30, .inl (u7 22))), ((r 23), .inl (cI, 30, .inl (u7 23))), ((r 24), .inl (cI, 30, .inl (u7 24))), ((r 25), .inl (cI, 780, .inl (u7 25))), ((r 28), .inl (cI, 5, .inl (u7 28))), ((r 29), .inl (cI, 18000, .inl (u7 29))), ((r 26), .inl (cB, 27000, .inl (u7 26))), ((r 27), .inl (cI, 27000, .inl (u7 27)))]) hD hS hA [0, 1, 2, 3, 4, 5, 6, 7, 8, 9, 10, 11, 12, 13, 14, 15, 16, 17, 18, 19, 20, 21, 22, 23, 24] rfl
            refine va_callv (va_runV (As := [.int 4, .int 0]) (rest := []) ⟨hx, hb, hml, hown, hts⟩ ((c_m_copy l dC dI cI cZ cB cJ cP cW r (fun k => if k = 13 then gd else u7 k) 4 0 H9.size) (by decide) (by decide) (by decide) hr6.2.1) (cwV 2 hts g295_m_ahead_m_copy rfl rfl rfl (by decide +kernel) ⟨Nat.le_of_ble_eq_true rfl, Nat.le_of_ble_eq_true rfl⟩) ⟨fbM, va_recv hK hPc (ci := 8) (q0 := 0) rfl rfl, fun U hU hW => ⟨rfl, by rw [hU], hE.warm hW, by rw [hU]; exact hPc, hDc.weaken (fun _ _ _ _ => trivial)⟩⟩ rfl rfl hl.1 rfl (lv_room (Nat.le_of_ble_eq_true rfl)) dX8_ahead_143 ⟨Nat.le_of_ble_eq_true rfl, Nat.le_of_ble_eq_true rfl⟩) hS (fun q _ h => hFc q h) hFc (fun u19 t H20 locs ht hvm hr18 hB hz1 hk1 hS => ?_)
            obtain ⟨hP1, hD1⟩ := hB
            rw [ht] at hP1
            obtain ⟨hP, hD⟩ := va_join (wr := []) (w1 := [((r 0), .inr (8, [.int 0, .ref (r 1), .int 0, .ref (r 3), .ref (r 4), .ref (r 5), .ref (r 6), .ref (r 7), .ref (r 8), .ref (r 9), .ref (r 10), .ref (r 11), .ref (r 12), .ref (r 13), .ref (r 14), .ref (r 15), .ref (r 16), .ref (r 17), .ref (r 18), .ref (r 19), .ref (r 20), .ref (r 21), .ref (r 22), .ref (r 23), .ref (r 24), .ref (r 25), .ref (r 26), .ref (r 27), .ref (r 28), .ref (r 29), .int 0, .int 0, .int 0, .int 0, .int 0, .int 0, .int (-1), .int 0, .int 0, .int 0, .int 0, .int 0, .int 0, .ref (r 43), .ref (r 44), .ref (r 45), .int 0, .ref (r 47)])), ((r 14), .inl (cZ, 2000, .inl (u19 14))), ((r 6), .inl (cI, 5, .inl (u19 6))), ((r 7), .inl (cI, 5, .inl (u19 7))), ((r 8), .inl (cI, 100, .inl (u19 8))), ((r 9), .inl (cI, 110, .inl (u19 9))), ((r 10), .inl (cI, 110, .inl (u19 10))), ((r 11), .inl (cI, 110, .inl (u19 11))), ((r 12), .inl (cI, 600, .inl (u19 12))), ((r 13), .inl (cI, 5, .inl (u19 13))), ((r 15), .inl (cI, 80, .inl (u19 15))), ((r 16), .inl (cI, 5, .inl (u19 16))), ((r 17), .inl (cI, 30, .inl (u19 17))), ((r 18), .inl (cI, 30, .inl (u19 18))), ((r 19), .inl (cI, 30, .inl (u19 19))), ((r 20), .inl (cI, 30, .inl (u19 20))), ((r 21), .inl (cI, 30, .inl (u19 21))), ((r 22), .inl (cI, 30, .inl (u19 22))), ((r 23), .inl (cI, 30, .inl (u19 23))), ((r 24), .inl (cI, 30, .inl (u19 24))), ((r 25), .inl (cI, 780, .inl (u19 25))), ((r 28), .inl (cI, 5, .inl (u19 28))), ((r 29), .inl (cI, 18000, .inl (u19 29))), ((r 26), .inl (cB, 27000, .inl (u19 26))), ((r 27), .inl (cI, 27000, .inl (u19 27)))]) hP hD [0, 1, 2, 3, 4, 5, 6, 7, 8, 9, 10, 11, 12, 13, 14, 15, 16, 17, 18, 19, 20, 21, 22, 23, 24] [] rfl rfl (by decide) (by decide) hk1 hFc hP1 hD1
            have hP : va_P (dC, dI) vwCl [((r 0), .inr (8, [.int 0, .ref (r 1), .int 0, .ref (r 3), .ref (r 4), .ref (r 5), .ref (r 6), .ref (r 7), .ref (r 8), .ref (r 9), .ref (r 10), .ref (r 11), .ref (r 12), .ref (r 13), .ref (r 14), .ref (r 15), .ref (r 16), .ref (r 17), .ref (r 18), .ref (r 19), .ref (r 20), .ref (r 21), .ref (r 22), .ref (r 23), .ref (r 24), .ref (r 25), .ref (r 26), .ref (r 27), .ref (r 28), .ref (r 29), .int 0, .int 0, .int 0, .int 0, .int 0, .int 0, .int (-1), .int 0, .int 0, .int 0, .int 0, .int 0, .int 0, .ref (r 43), .ref (r 44), .ref (r 45), .int 0, .ref (r 47)])), ((r 14), .inl (cZ, 2000, .inl (u19 14))), ((r 6), .inl (cI, 5, .inl (u19 6))), ((r 7), .inl (cI, 5, .inl (u19 7))), ((r 8), .inl (cI, 100, .inl (u19 8))), ((r 9), .inl (cI, 110, .inl (u19 9))), ((r 10), .inl (cI, 110, .inl (u19 10))), ((r 11), .inl (cI, 110, .inl (u19 11))), ((r 12), .inl (cI, 600, .inl (u19 12))), ((r 13), .inl (cI, 5, .inl (u19 13))), ((r 15), .inl (cI, 80, .inl (u19 15))), ((r 16), .inl (cI, 5, .inl (u19 16))), ((r 17), .inl (cI, 30, .inl (u19 17))), ((r 18), .inl (cI, 30, .inl (u19 18))), ((r 19), .inl (cI, 30, .inl (u19 19))), ((r 20), .inl (cI, 30, .inl (u19 20))), ((r 21), .inl (cI, 30, .inl (u19 21))), ((r 22), .inl (cI, 30, .inl (u19 22))), ((r 23), .inl (cI, 30, .inl (u19 23))), ((r 24), .inl (cI, 30, .inl (u19 24))), ((r 25), .inl (cI, 780, .inl (u19 25))), ((r 28), .inl (cI, 5, .inl (u19 28))), ((r 29), .inl (cI, 18000, .inl (u19 29))), ((r 26), .inl (cB, 27000, .inl (u19 26))), ((r 27), .inl (cI, 27000, .inl (u19 27)))] H20 := hP
            have hD : va_D A [((r 0), .inr (8, [.int 0, .ref (r 1), .int 0, .ref (r 3), .ref (r 4), .ref (r 5), .ref (r 6), .ref (r 7), .ref (r 8), .ref (r 9), .ref (r 10), .ref (r 11), .ref (r 12), .ref (r 13), .ref (r 14), .ref (r 15), .ref (r 16), .ref (r 17), .ref (r 18), .ref (r 19), .ref (r 20), .ref (r 21), .ref (r 22), .ref (r 23), .ref (r 24), .ref (r 25), .ref (r 26), .ref (r 27), .ref (r 28), .ref (r 29), .int 0, .int 0, .int 0, .int 0, .int 0, .int 0, .int (-1), .int 0, .int 0, .int 0, .int 0, .int 0, .int 0, .ref (r 43), .ref (r 44), .ref (r 45), .int 0, .ref (r 47)])), ((r 14), .inl (cZ, 2000, .inl (u19 14))), ((r 6), .inl (cI, 5, .inl (u19 6))), ((r 7), .inl (cI, 5, .inl (u19 7))), ((r 8), .inl (cI, 100, .inl (u19 8))), ((r 9), .inl (cI, 110, .inl (u19 9))), ((r 10), .inl (cI, 110, .inl (u19 10))), ((r 11), .inl (cI, 110, .inl (u19 11))), ((r 12), .inl (cI, 600, .inl (u19 12))), ((r 13), .inl (cI, 5, .inl (u19 13))), ((r 15), .inl (cI, 80, .inl (u19 15))), ((r 16), .inl (cI, 5, .inl (u19 16))), ((r 17), .inl (cI, 30, .inl (u19 17))), ((r 18), .inl (cI, 30, .inl (u19 18))), ((r 19), .inl (cI, 30, .inl (u19 19))), ((r 20), .inl (cI, 30, .inl (u19 20))), ((r 21), .inl (cI, 30, .inl (u19 21))), ((r 22), .inl (cI, 30, .inl (u19 22))), ((r 23), .inl (cI, 30, .inl (u19 23))), ((r 24), .inl (cI, 30, .inl (u19 24))), ((r 25), .inl (cI, 780, .inl (u19 25))), ((r 28), .inl (cI, 5, .inl (u19 28))), ((r 29), .inl (cI, 18000, .inl (u19 29))), ((r 26), .inl (cB, 27000, .inl (u19 26))), ((r 27), .inl (cI, 27000, .inl (u19 27)))] := hD
            refine lv_iload hx hb dX8_ahead_146 (lv_at hl 0 rfl) ?_
            have hP9 := hP.sub (ws' := []) [] rfl
            have hD9 := hD.sub (ws' := []) [] (by decide) rfl
            refine W.widen (k := 0) (n := 0) (by decide) (by decide) ?_
            exact W.iret (v := 0) hx hb hr (fun t ht hW => ⟨⟨0, (), rfl, (by rw [if_neg c3, if_neg c5]; simp [c11, c12]), by rw [ht]; exact hP9, hD9⟩, hS.F ht⟩) hS.2.2 dX8_ahead_148
        · refine lv_iload_n hx hb dX8_ahead_118 rfl (lv_at hl 3 rfl) ?_
          refine lv_goto (tgt := 138) hx hb dX8_ahead_119 (by decide) ?_
          refine lv_istore (lv' := [(4, .int (-1)), (0, .ref (r 0)), (1, .int n), (2, .int w), (3, .int (-1))]) hx hb dX8_ahead_138 hl (by decide) rfl (fun ls hl => ?_)
          refine lv_aload_n hx hb dX8_ahead_140 rfl (lv_at hl 1 rfl) ?_
          refine lv_iconst (v := 4) hx hb dX8_ahead_141 (by decide) ?_
          refine lv_iconst (v := 0) hx hb dX8_ahead_142 (by decide) ?_
          have hPc := hP.sub (ws' := [((r 0), .inr (8, [.int 0, .ref (r 1), .int 0, .ref (r 3), .ref (r 4), .ref (r 5), .ref (r 6), .ref (r 7), .ref (r 8), .ref (r 9), .ref (r 10), .ref (r 11), .ref (r 12), .ref (r 13), .ref (r 14), .ref (r 15), .ref (r 16), .ref (r 17), .ref (r 18), .ref (r 19), .ref (r 20), .ref (r 21), .ref (r 22), .ref (r 23), .ref (r 24), .ref (r 25), .ref (r 26), .ref (r 27), .ref (r 28), .ref (r 29), .int 0, .int 0, .int 0, .int 0, .int 0, .int 0, .int (-1), .int 0, .int 0, .int 0, .int 0, .int 0, .int 0, .ref (r 43), .ref (r 44), .ref (r 45), .int 0, .ref (r 47)])), ((r 14), .inl (cZ, 2000, .inl (u7 14))), ((r 6), .inl (cI, 5, .inl (u7 6))), ((r 7), .inl (cI, 5, .inl (u7 7))), ((r 8), .inl (cI, 100, .inl (u7 8))), ((r 9), .inl (cI, 110, .inl (u7 9))), ((r 10), .inl (cI, 110, .inl (u7 10))), ((r 11), .inl (cI, 110, .inl (u7 11))), ((r 12), .inl (cI, 600, .inl (u7 12))), ((r 13), .inl (cI, 5, .inl gd)), ((r 15), .inl (cI, 80, .inl (u7 15))), ((r 16), .inl (cI, 5, .inl (u7 16))), ((r 17), .inl (cI, 30, .inl (u7 17))), ((r 18), .inl (cI, 30, .inl (u7 18))), ((r 19), .inl (cI, 30, .inl (u7 19))), ((r 20), .inl (cI, 30, .inl (u7 20))), ((r 21), .inl (cI, 30, .inl (u7 21))), ((r 22), .inl (cI, 30, .inl (u7 22))), ((r 23), .inl (cI, 30, .inl (u7 23))), ((r 24), .inl (cI, 30, .inl (u7 24))), ((r 25), .inl (cI, 780, .inl (u7 25))), ((r 28), .inl (cI, 5, .inl (u7 28))), ((r 29), .inl (cI, 18000, .inl (u7 29))), ((r 26), .inl (cB, 27000, .inl (u7 26))), ((r 27), .inl (cI, 27000, .inl (u7 27)))]) [0, 1, 2, 3, 4, 5, 6, 7, 8, 9, 10, 11, 12, 13, 14, 15, 16, 17, 18, 19, 20, 21, 22, 23, 24] rfl
          have hDc := hD.sub (ws' := [((r 0), .inr (8, [.int 0, .ref (r 1), .int 0, .ref (r 3), .ref (r 4), .ref (r 5), .ref (r 6), .ref (r 7), .ref (r 8), .ref (r 9), .ref (r 10), .ref (r 11), .ref (r 12), .ref (r 13), .ref (r 14), .ref (r 15), .ref (r 16), .ref (r 17), .ref (r 18), .ref (r 19), .ref (r 20), .ref (r 21), .ref (r 22), .ref (r 23), .ref (r 24), .ref (r 25), .ref (r 26), .ref (r 27), .ref (r 28), .ref (r 29), .int 0, .int 0, .int 0, .int 0, .int 0, .int 0, .int (-1), .int 0, .int 0, .int 0, .int 0, .int 0, .int 0, .ref (r 43), .ref (r 44), .ref (r 45), .int 0, .ref (r 47)])), ((r 14), .inl (cZ, 2000, .inl (u7 14))), ((r 6), .inl (cI, 5, .inl (u7 6))), ((r 7), .inl (cI, 5, .inl (u7 7))), ((r 8), .inl (cI, 100, .inl (u7 8))), ((r 9), .inl (cI, 110, .inl (u7 9))), ((r 10), .inl (cI, 110, .inl (u7 10))), ((r 11), .inl (cI, 110, .inl (u7 11))), ((r 12), .inl (cI, 600, .inl (u7 12))), ((r 13), .inl (cI, 5, .inl gd)), ((r 15), .inl (cI, 80, .inl (u7 15))), ((r 16), .inl (cI, 5, .inl (u7 16))), ((r 17), .inl (cI, 30, .inl (u7 17))), ((r 18), .inl (cI, 30, .inl (u7 18))), ((r 19), .inl (cI, 30, .inl (u7 19))), ((r 20), .inl (cI, 30, .inl (u7 20))), ((r 21), .inl (cI, 30, .inl (u7 21))), ((r 22), .inl (cI, 30, .inl (u7 22))), ((r 23), .inl (cI, 30, .inl (u7 23))), ((r 24), .inl (cI, 30, .inl (u7 24))), ((r 25), .inl (cI, 780, .inl (u7 25))), ((r 28), .inl (cI, 5, .inl (u7 28))), ((r 29), .inl (cI, 18000, .inl (u7 29))), ((r 26), .inl (cB, 27000, .inl (u7 26))), ((r 27), .inl (cI, 27000, .inl (u7 27)))]) [0, 1, 2, 3, 4, 5, 6, 7, 8, 9, 10, 11, 12, 13, 14, 15, 16, 17, 18, 19, 20, 21, 22, 23, 24] (by decide) rfl
          have hFc := va_free (wc := [((r 0), .inr (8, [.int 0, .ref (r 1), .int 0, .ref (r 3), .ref (r 4), .ref (r 5), .ref (r 6), .ref (r 7), .ref (r 8), .ref (r 9), .ref (r 10), .ref (r 11), .ref (r 12), .ref (r 13), .ref (r 14), .ref (r 15), .ref (r 16), .ref (r 17), .ref (r 18), .ref (r 19), .ref (r 20), .ref (r 21), .ref (r 22), .ref (r 23), .ref (r 24), .ref (r 25), .ref (r 26), .ref (r 27), .ref (r 28), .ref (r 29), .int 0, .int 0, .int 0, .int 0, .int 0, .int 0, .int (-1), .int 0, .int 0, .int 0, .int 0, .int 0, .int 0, .ref (r 43), .ref (r 44), .ref (r 45), .int 0, .ref (r 47)])), ((r 14), .inl (cZ, 2000, .inl (u7 14))), ((r 6), .inl (cI, 5, .inl (u7 6))), ((r 7), .inl (cI, 5, .inl (u7 7))), ((r 8), .inl (cI, 100, .inl (u7 8))), ((r 9), .inl (cI, 110, .inl (u7 9))), ((r 10), .inl (cI, 110, .inl (u7 10))), ((r 11), .inl (cI, 110, .inl (u7 11))), ((r 12), .inl (cI, 600, .inl (u7 12))), ((r 13), .inl (cI, 5, .inl gd)), ((r 15), .inl (cI, 80, .inl (u7 15))), ((r 16), .inl (cI, 5, .inl (u7 16))), ((r 17), .inl (cI, 30, .inl (u7 17))), ((r 18), .inl (cI, 30, .inl (u7 18))), ((r 19), .inl (cI, 30, .inl (u7 19))), ((r 20), .inl (cI, 30, .inl (u7 20))), ((r 21), .inl (cI, 30, .inl (u7 21))), ((r 22), .inl (cI, 30, .inl (u7 22))), ((r 23), .inl (cI, 30, .inl (u7 23))), ((r 24), .inl (cI, 30, .inl (u7 24))), ((r 25), .inl (cI, 780, .inl (u7 25))), ((r 28), .inl (cI, 5, .inl (u7 28))), ((r 29), .inl (cI, 18000, .inl (u7 29))), ((r 26), .inl (cB, 27000, .inl (u7 26))), ((r 27), .inl (cI, 27000, .inl (u7 27)))]) hD hS hA [0, 1, 2, 3, 4, 5, 6, 7, 8, 9, 10, 11, 12, 13, 14, 15, 16, 17, 18, 19, 20, 21, 22, 23, 24] rfl
          refine va_callv (va_runV (As := [.int 4, .int 0]) (rest := []) ⟨hx, hb, hml, hown, hts⟩ ((c_m_copy l dC dI cI cZ cB cJ cP cW r (fun k => if k = 13 then gd else u7 k) 4 0 H9.size) (by decide) (by decide) (by decide) hr6.2.1) (cwV 2 hts g295_m_ahead_m_copy rfl rfl rfl (by decide +kernel) ⟨Nat.le_of_ble_eq_true rfl, Nat.le_of_ble_eq_true rfl⟩) ⟨fbM, va_recv hK hPc (ci := 8) (q0 := 0) rfl rfl, fun U hU hW => ⟨rfl, by rw [hU], hE.warm hW, by rw [hU]; exact hPc, hDc.weaken (fun _ _ _ _ => trivial)⟩⟩ rfl rfl hl.1 rfl (lv_room (Nat.le_of_ble_eq_true rfl)) dX8_ahead_143 ⟨Nat.le_of_ble_eq_true rfl, Nat.le_of_ble_eq_true rfl⟩) hS (fun q _ h => hFc q h) hFc (fun u22 t H23 locs ht hvm hr21 hB hz1 hk1 hS => ?_)
          obtain ⟨hP1, hD1⟩ := hB
          rw [ht] at hP1
          obtain ⟨hP, hD⟩ := va_join (wr := []) (w1 := [((r 0), .inr (8, [.int 0, .ref (r 1), .int 0, .ref (r 3), .ref (r 4), .ref (r 5), .ref (r 6), .ref (r 7), .ref (r 8), .ref (r 9), .ref (r 10), .ref (r 11), .ref (r 12), .ref (r 13), .ref (r 14), .ref (r 15), .ref (r 16), .ref (r 17), .ref (r 18), .ref (r 19), .ref (r 20), .ref (r 21), .ref (r 22), .ref (r 23), .ref (r 24), .ref (r 25), .ref (r 26), .ref (r 27), .ref (r 28), .ref (r 29), .int 0, .int 0, .int 0, .int 0, .int 0, .int 0, .int (-1), .int 0, .int 0, .int 0, .int 0, .int 0, .int 0, .ref (r 43), .ref (r 44), .ref (r 45), .int 0, .ref (r 47)])), ((r 14), .inl (cZ, 2000, .inl (u22 14))), ((r 6), .inl (cI, 5, .inl (u22 6))), ((r 7), .inl (cI, 5, .inl (u22 7))), ((r 8), .inl (cI, 100, .inl (u22 8))), ((r 9), .inl (cI, 110, .inl (u22 9))), ((r 10), .inl (cI, 110, .inl (u22 10))), ((r 11), .inl (cI, 110, .inl (u22 11))), ((r 12), .inl (cI, 600, .inl (u22 12))), ((r 13), .inl (cI, 5, .inl (u22 13))), ((r 15), .inl (cI, 80, .inl (u22 15))), ((r 16), .inl (cI, 5, .inl (u22 16))), ((r 17), .inl (cI, 30, .inl (u22 17))), ((r 18), .inl (cI, 30, .inl (u22 18))), ((r 19), .inl (cI, 30, .inl (u22 19))), ((r 20), .inl (cI, 30, .inl (u22 20))), ((r 21), .inl (cI, 30, .inl (u22 21))), ((r 22), .inl (cI, 30, .inl (u22 22))), ((r 23), .inl (cI, 30, .inl (u22 23))), ((r 24), .inl (cI, 30, .inl (u22 24))), ((r 25), .inl (cI, 780, .inl (u22 25))), ((r 28), .inl (cI, 5, .inl (u22 28))), ((r 29), .inl (cI, 18000, .inl (u22 29))), ((r 26), .inl (cB, 27000, .inl (u22 26))), ((r 27), .inl (cI, 27000, .inl (u22 27)))]) hP hD [0, 1, 2, 3, 4, 5, 6, 7, 8, 9, 10, 11, 12, 13, 14, 15, 16, 17, 18, 19, 20, 21, 22, 23, 24] [] rfl rfl (by decide) (by decide) hk1 hFc hP1 hD1
          have hP : va_P (dC, dI) vwCl [((r 0), .inr (8, [.int 0, .ref (r 1), .int 0, .ref (r 3), .ref (r 4), .ref (r 5), .ref (r 6), .ref (r 7), .ref (r 8), .ref (r 9), .ref (r 10), .ref (r 11), .ref (r 12), .ref (r 13), .ref (r 14), .ref (r 15), .ref (r 16), .ref (r 17), .ref (r 18), .ref (r 19), .ref (r 20), .ref (r 21), .ref (r 22), .ref (r 23), .ref (r 24), .ref (r 25), .ref (r 26), .ref (r 27), .ref (r 28), .ref (r 29), .int 0, .int 0, .int 0, .int 0, .int 0, .int 0, .int (-1), .int 0, .int 0, .int 0, .int 0, .int 0, .int 0, .ref (r 43), .ref (r 44), .ref (r 45), .int 0, .ref (r 47)])), ((r 14), .inl (cZ, 2000, .inl (u22 14))), ((r 6), .inl (cI, 5, .inl (u22 6))), ((r 7), .inl (cI, 5, .inl (u22 7))), ((r 8), .inl (cI, 100, .inl (u22 8))), ((r 9), .inl (cI, 110, .inl (u22 9))), ((r 10), .inl (cI, 110, .inl (u22 10))), ((r 11), .inl (cI, 110, .inl (u22 11))), ((r 12), .inl (cI, 600, .inl (u22 12))), ((r 13), .inl (cI, 5, .inl (u22 13))), ((r 15), .inl (cI, 80, .inl (u22 15))), ((r 16), .inl (cI, 5, .inl (u22 16))), ((r 17), .inl (cI, 30, .inl (u22 17))), ((r 18), .inl (cI, 30, .inl (u22 18))), ((r 19), .inl (cI, 30, .inl (u22 19))), ((r 20), .inl (cI, 30, .inl (u22 20))), ((r 21), .inl (cI, 30, .inl (u22 21))), ((r 22), .inl (cI, 30, .inl (u22 22))), ((r 23), .inl (cI, 30, .inl (u22 23))), ((r 24), .inl (cI, 30, .inl (u22 24))), ((r 25), .inl (cI, 780, .inl (u22 25))), ((r 28), .inl (cI, 5, .inl (u22 28))), ((r 29), .inl (cI, 18000, .inl (u22 29))), ((r 26), .inl (cB, 27000, .inl (u22 26))), ((r 27), .inl (cI, 27000, .inl (u22 27)))] H23 := hP
          have hD : va_D A [((r 0), .inr (8, [.int 0, .ref (r 1), .int 0, .ref (r 3), .ref (r 4), .ref (r 5), .ref (r 6), .ref (r 7), .ref (r 8), .ref (r 9), .ref (r 10), .ref (r 11), .ref (r 12), .ref (r 13), .ref (r 14), .ref (r 15), .ref (r 16), .ref (r 17), .ref (r 18), .ref (r 19), .ref (r 20), .ref (r 21), .ref (r 22), .ref (r 23), .ref (r 24), .ref (r 25), .ref (r 26), .ref (r 27), .ref (r 28), .ref (r 29), .int 0, .int 0, .int 0, .int 0, .int 0, .int 0, .int (-1), .int 0, .int 0, .int 0, .int 0, .int 0, .int 0, .ref (r 43), .ref (r 44), .ref (r 45), .int 0, .ref (r 47)])), ((r 14), .inl (cZ, 2000, .inl (u22 14))), ((r 6), .inl (cI, 5, .inl (u22 6))), ((r 7), .inl (cI, 5, .inl (u22 7))), ((r 8), .inl (cI, 100, .inl (u22 8))), ((r 9), .inl (cI, 110, .inl (u22 9))), ((r 10), .inl (cI, 110, .inl (u22 10))), ((r 11), .inl (cI, 110, .inl (u22 11))), ((r 12), .inl (cI, 600, .inl (u22 12))), ((r 13), .inl (cI, 5, .inl (u22 13))), ((r 15), .inl (cI, 80, .inl (u22 15))), ((r 16), .inl (cI, 5, .inl (u22 16))), ((r 17), .inl (cI, 30, .inl (u22 17))), ((r 18), .inl (cI, 30, .inl (u22 18))), ((r 19), .inl (cI, 30, .inl (u22 19))), ((r 20), .inl (cI, 30, .inl (u22 20))), ((r 21), .inl (cI, 30, .inl (u22 21))), ((r 22), .inl (cI, 30, .inl (u22 22))), ((r 23), .inl (cI, 30, .inl (u22 23))), ((r 24), .inl (cI, 30, .inl (u22 24))), ((r 25), .inl (cI, 780, .inl (u22 25))), ((r 28), .inl (cI, 5, .inl (u22 28))), ((r 29), .inl (cI, 18000, .inl (u22 29))), ((r 26), .inl (cB, 27000, .inl (u22 26))), ((r 27), .inl (cI, 27000, .inl (u22 27)))] := hD
          refine lv_iload hx hb dX8_ahead_146 (lv_at hl 0 rfl) ?_
          have hP9 := hP.sub (ws' := []) [] rfl
          have hD9 := hD.sub (ws' := []) [] (by decide) rfl
          refine W.widen (k := 0) (n := 0) (by decide) (by decide) ?_
          exact W.iret (v := (-1)) hx hb hr (fun t ht hW => ⟨⟨(-1), (), rfl, (by rw [if_neg c3, if_neg c5]; simp [c11]), by rw [ht]; exact hP9, hD9⟩, hS.F ht⟩) hS.2.2 dX8_ahead_148
      · have hj : j < K := Nat.lt_of_not_le (fun h => absurd (by rw [eK]; exact nI_le h (by omega)) c10)
        refine lv_aload_n hx hb dX8_ahead_42 rfl (lv_at hl 0 rfl) ?_
        have hPc := hP.sub (ws' := [((r 0), .inr (8, [.int 0, .ref (r 1), .int 0, .ref (r 3), .ref (r 4), .ref (r 5), .ref (r 6), .ref (r 7), .ref (r 8), .ref (r 9), .ref (r 10), .ref (r 11), .ref (r 12), .ref (r 13), .ref (r 14), .ref (r 15), .ref (r 16), .ref (r 17), .ref (r 18), .ref (r 19), .ref (r 20), .ref (r 21), .ref (r 22), .ref (r 23), .ref (r 24), .ref (r 25), .ref (r 26), .ref (r 27), .ref (r 28), .ref (r 29), .int 0, .int 0, .int 0, .int 0, .int 0, .int 0, .int (-1), .int 0, .int 0, .int 0, .int 0, .int 0, .int 0, .ref (r 43), .ref (r 44), .ref (r 45), .int 0, .ref (r 47)])), ((r 16), .inl (cI, 5, .inl (u7 16))), ((r 13), .inl (cI, 5, .inl gd))]) [0, 11, 9] rfl
        have hDc := hD.sub (ws' := [((r 0), .inr (8, [.int 0, .ref (r 1), .int 0, .ref (r 3), .ref (r 4), .ref (r 5), .ref (r 6), .ref (r 7), .ref (r 8), .ref (r 9), .ref (r 10), .ref (r 11), .ref (r 12), .ref (r 13), .ref (r 14), .ref (r 15), .ref (r 16), .ref (r 17), .ref (r 18), .ref (r 19), .ref (r 20), .ref (r 21), .ref (r 22), .ref (r 23), .ref (r 24), .ref (r 25), .ref (r 26), .ref (r 27), .ref (r 28), .ref (r 29), .int 0, .int 0, .int 0, .int 0, .int 0, .int 0, .int (-1), .int 0, .int 0, .int 0, .int 0, .int 0, .int 0, .ref (r 43), .ref (r 44), .ref (r 45), .int 0, .ref (r 47)])), ((r 16), .inl (cI, 5, .inl (u7 16))), ((r 13), .inl (cI, 5, .inl gd))]) [0, 11, 9] (by decide) rfl
        have hFc := va_free (wc := [((r 0), .inr (8, [.int 0, .ref (r 1), .int 0, .ref (r 3), .ref (r 4), .ref (r 5), .ref (r 6), .ref (r 7), .ref (r 8), .ref (r 9), .ref (r 10), .ref (r 11), .ref (r 12), .ref (r 13), .ref (r 14), .ref (r 15), .ref (r 16), .ref (r 17), .ref (r 18), .ref (r 19), .ref (r 20), .ref (r 21), .ref (r 22), .ref (r 23), .ref (r 24), .ref (r 25), .ref (r 26), .ref (r 27), .ref (r 28), .ref (r 29), .int 0, .int 0, .int 0, .int 0, .int 0, .int 0, .int (-1), .int 0, .int 0, .int 0, .int 0, .int 0, .int 0, .ref (r 43), .ref (r 44), .ref (r 45), .int 0, .ref (r 47)])), ((r 16), .inl (cI, 5, .inl (u7 16))), ((r 13), .inl (cI, 5, .inl gd))]) hD hS hA [0, 11, 9] rfl
        refine va_callv (va_runV (As := []) (rest := []) ⟨hx, hb, hml, hown, hts⟩ ((c_oneDay l dC dI cI cZ cB cJ cP cW r (u7 16) gd H9.size) (hr6.2.2.2.1 0 (by decide))) (cwV 0 hts g292_m_ahead_oneDay rfl rfl rfl (by decide +kernel) ⟨Nat.le_of_ble_eq_true rfl, Nat.le_of_ble_eq_true rfl⟩) ⟨fbM, va_recv hK hPc (ci := 8) (q0 := 0) rfl rfl, fun U hU hW => ⟨rfl, by rw [hU], hE.warm hW, by rw [hU]; exact hPc, hDc.weaken (fun _ _ _ _ => trivial)⟩⟩ rfl rfl hl.1 rfl (lv_room (Nat.le_of_ble_eq_true rfl)) dX8_ahead_43 ⟨Nat.le_of_ble_eq_true rfl, Nat.le_of_ble_eq_true rfl⟩) hS (fun q _ h => hFc q h) hFc (fun u25 t H26 locs ht hvm hr24 hB hz1 hk1 hS => ?_)
        obtain ⟨hP1, hD1⟩ := hB
        rw [ht] at hP1
        obtain ⟨hP, hD⟩ := va_join (wr := [((r 14), .inl (cZ, 2000, .inl (u7 14))), ((r 6), .inl (cI, 5, .inl (u7 6))), ((r 7), .inl (cI, 5, .inl (u7 7))), ((r 8), .inl (cI, 100, .inl (u7 8))), ((r 9), .inl (cI, 110, .inl (u7 9))), ((r 10), .inl (cI, 110, .inl (u7 10))), ((r 11), .inl (cI, 110, .inl (u7 11))), ((r 12), .inl (cI, 600, .inl (u7 12))), ((r 15), .inl (cI, 80, .inl (u7 15))), ((r 17), .inl (cI, 30, .inl (u7 17))), ((r 18), .inl (cI, 30, .inl (u7 18))), ((r 19), .inl (cI, 30, .inl (u7 19))), ((r 20), .inl (cI, 30, .inl (u7 20))), ((r 21), .inl (cI, 30, .inl (u7 21))), ((r 22), .inl (cI, 30, .inl (u7 22))), ((r 23), .inl (cI, 30, .inl (u7 23))), ((r 24), .inl (cI, 30, .inl (u7 24))), ((r 25), .inl (cI, 780, .inl (u7 25))), ((r 28), .inl (cI, 5, .inl (u7 28))), ((r 29), .inl (cI, 18000, .inl (u7 29))), ((r 26), .inl (cB, 27000, .inl (u7 26))), ((r 27), .inl (cI, 27000, .inl (u7 27)))]) (w1 := [((r 0), .inr (8, [.int 0, .ref (r 1), .int 0, .ref (r 3), .ref (r 4), .ref (r 5), .ref (r 6), .ref (r 7), .ref (r 8), .ref (r 9), .ref (r 10), .ref (r 11), .ref (r 12), .ref (r 13), .ref (r 14), .ref (r 15), .ref (r 16), .ref (r 17), .ref (r 18), .ref (r 19), .ref (r 20), .ref (r 21), .ref (r 22), .ref (r 23), .ref (r 24), .ref (r 25), .ref (r 26), .ref (r 27), .ref (r 28), .ref (r 29), .int 0, .int 0, .int 0, .int 0, .int 0, .int 0, .int (-1), .int 0, .int 0, .int 0, .int 0, .int 0, .int 0, .ref (r 43), .ref (r 44), .ref (r 45), .int 0, .ref (r 47)])), ((r 16), .inl (cI, 5, .inl (u7 16))), ((r 13), .inl (cI, 5, .inl u25))]) hP hD [0, 11, 9] [1, 2, 3, 4, 5, 6, 7, 8, 10, 12, 13, 14, 15, 16, 17, 18, 19, 20, 21, 22, 23, 24] rfl rfl (by decide) (by decide) hk1 hFc hP1 hD1
        have hP : va_P (dC, dI) vwCl [((r 14), .inl (cZ, 2000, .inl (u7 14))), ((r 6), .inl (cI, 5, .inl (u7 6))), ((r 7), .inl (cI, 5, .inl (u7 7))), ((r 8), .inl (cI, 100, .inl (u7 8))), ((r 9), .inl (cI, 110, .inl (u7 9))), ((r 10), .inl (cI, 110, .inl (u7 10))), ((r 11), .inl (cI, 110, .inl (u7 11))), ((r 12), .inl (cI, 600, .inl (u7 12))), ((r 15), .inl (cI, 80, .inl (u7 15))), ((r 17), .inl (cI, 30, .inl (u7 17))), ((r 18), .inl (cI, 30, .inl (u7 18))), ((r 19), .inl (cI, 30, .inl (u7 19))), ((r 20), .inl (cI, 30, .inl (u7 20))), ((r 21), .inl (cI, 30, .inl (u7 21))), ((r 22), .inl (cI, 30, .inl (u7 22))), ((r 23), .inl (cI, 30, .inl (u7 23))), ((r 24), .inl (cI, 30, .inl (u7 24))), ((r 25), .inl (cI, 780, .inl (u7 25))), ((r 28), .inl (cI, 5, .inl (u7 28))), ((r 29), .inl (cI, 18000, .inl (u7 29))), ((r 26), .inl (cB, 27000, .inl (u7 26))), ((r 27), .inl (cI, 27000, .inl (u7 27))), ((r 0), .inr (8, [.int 0, .ref (r 1), .int 0, .ref (r 3), .ref (r 4), .ref (r 5), .ref (r 6), .ref (r 7), .ref (r 8), .ref (r 9), .ref (r 10), .ref (r 11), .ref (r 12), .ref (r 13), .ref (r 14), .ref (r 15), .ref (r 16), .ref (r 17), .ref (r 18), .ref (r 19), .ref (r 20), .ref (r 21), .ref (r 22), .ref (r 23), .ref (r 24), .ref (r 25), .ref (r 26), .ref (r 27), .ref (r 28), .ref (r 29), .int 0, .int 0, .int 0, .int 0, .int 0, .int 0, .int (-1), .int 0, .int 0, .int 0, .int 0, .int 0, .int 0, .ref (r 43), .ref (r 44), .ref (r 45), .int 0, .ref (r 47)])), ((r 16), .inl (cI, 5, .inl (u7 16))), ((r 13), .inl (cI, 5, .inl u25))] H26 := hP
        have hD : va_D A [((r 14), .inl (cZ, 2000, .inl (u7 14))), ((r 6), .inl (cI, 5, .inl (u7 6))), ((r 7), .inl (cI, 5, .inl (u7 7))), ((r 8), .inl (cI, 100, .inl (u7 8))), ((r 9), .inl (cI, 110, .inl (u7 9))), ((r 10), .inl (cI, 110, .inl (u7 10))), ((r 11), .inl (cI, 110, .inl (u7 11))), ((r 12), .inl (cI, 600, .inl (u7 12))), ((r 15), .inl (cI, 80, .inl (u7 15))), ((r 17), .inl (cI, 30, .inl (u7 17))), ((r 18), .inl (cI, 30, .inl (u7 18))), ((r 19), .inl (cI, 30, .inl (u7 19))), ((r 20), .inl (cI, 30, .inl (u7 20))), ((r 21), .inl (cI, 30, .inl (u7 21))), ((r 22), .inl (cI, 30, .inl (u7 22))), ((r 23), .inl (cI, 30, .inl (u7 23))), ((r 24), .inl (cI, 30, .inl (u7 24))), ((r 25), .inl (cI, 780, .inl (u7 25))), ((r 28), .inl (cI, 5, .inl (u7 28))), ((r 29), .inl (cI, 18000, .inl (u7 29))), ((r 26), .inl (cB, 27000, .inl (u7 26))), ((r 27), .inl (cI, 27000, .inl (u7 27))), ((r 0), .inr (8, [.int 0, .ref (r 1), .int 0, .ref (r 3), .ref (r 4), .ref (r 5), .ref (r 6), .ref (r 7), .ref (r 8), .ref (r 9), .ref (r 10), .ref (r 11), .ref (r 12), .ref (r 13), .ref (r 14), .ref (r 15), .ref (r 16), .ref (r 17), .ref (r 18), .ref (r 19), .ref (r 20), .ref (r 21), .ref (r 22), .ref (r 23), .ref (r 24), .ref (r 25), .ref (r 26), .ref (r 27), .ref (r 28), .ref (r 29), .int 0, .int 0, .int 0, .int 0, .int 0, .int 0, .int (-1), .int 0, .int 0, .int 0, .int 0, .int 0, .int 0, .ref (r 43), .ref (r 44), .ref (r 45), .int 0, .ref (r 47)])), ((r 16), .inl (cI, 5, .inl (u7 16))), ((r 13), .inl (cI, 5, .inl u25))] := hD
        refine lv_iconst (v := 0) hx hb dX8_ahead_46 (by decide) ?_
        refine lv_istore (lv' := [(5, .int 0), (0, .ref (r 0)), (1, .int n), (2, .int w), (3, .int (-1)), (4, .int (nI j))]) hx hb dX8_ahead_47 hl (by decide) rfl (fun ls hl => ?_)
        refine lv_iload hx hb dX8_ahead_49 (lv_at hl 0 rfl) ?_
        refine lv_aload_n hx hb dX8_ahead_51 rfl (lv_at hl 1 rfl) ?_
        refine va_get (D := (dC, dI)) (ci := 8) (v := .ref (r 16)) (C := RX8) (T := TX8) (N := 48) hx hb hts in_m_ahead_X8 hown hK hP 22 rfl rfl 16 (by decide) (hts (.fieldLink RX8 56 "DepotMarchModel" "parties" "[I") (by decide +kernel)) (fun _ h9 => h9) rfl dX8_ahead_52 ?_
        refine lv_iconst (v := 0) hx hb dX8_ahead_55 (by decide) ?_
        refine va_iald hx hb hK hP 23 0 rfl rfl (vpd rfl) dX8_ahead_56 ?_
        refine lv_topi (fun x27 ex27 => ?_)
        obtain rfl : x27 = 0 := ex27.trans (hr6.2.2.2.1 0 (by decide))
        refine lv_icmp_ge (tgt := 108) hx hb dX8_ahead_57 (by decide) (fun _ => ?_) (fun c9 => absurd (by decide) c9)
        refine lv_iinc (v := (nI (j + 1))) (lv' := [(4, .int (nI (j + 1))), (5, .int 0), (0, .ref (r 0)), (1, .int n), (2, .int w), (3, .int (-1))]) hx hb dX8_ahead_108 hl (k := 5) rfl (nI_1 j) (by decide) rfl (fun ls hl => ?_)
        refine lv_goto (tgt := 36) hx hb dX8_ahead_111 (by decide) ?_
        exact ih (j + 1, u25) _ _ _ ⟨hj, hP.sub [22, 0, 1, 2, 3, 4, 5, 6, 7, 24, 8, 23, 9, 10, 11, 12, 13, 14, 15, 16, 17, 18, 19, 20, 21] rfl, hD.sub [22, 0, 1, 2, 3, 4, 5, 6, 7, 24, 8, 23, 9, 10, 11, 12, 13, 14, 15, 16, 17, 18, 19, 20, 21] (by decide) rfl, hS, lv_sub hl [2, 3, 4, 5, 0] rfl⟩ (by show K - (j + 1) < K - j; omega)
    · refine lv_bipush (v := (-2)) hx hb dX8_ahead_22 (by decide) ?_
      have hP9 := hP.sub (ws' := []) [] rfl
      have hD9 := hD.sub (ws' := []) [] (by decide) rfl
      refine W.widen (k := 0) (n := 0) (by decide) (by decide) ?_
      exact W.iret (v := (-2)) hx hb hr (fun t ht hW => ⟨⟨(-2), (), rfl, (by simp [c3, c5]), by rw [ht]; exact hP9, hD9⟩, hS.F ht⟩) hS.2.2 dX8_ahead_24
