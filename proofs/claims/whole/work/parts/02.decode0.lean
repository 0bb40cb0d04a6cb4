theorem dX0_init_0 : decode cX0_init 0 = .ok (.aload_n 0, 1) := by decide +kernel
theorem dX0_init_1 : decode cX0_init 1 = .ok (.invokespecial 3, 3) := by decide +kernel
theorem dX0_init_4 : decode cX0_init 4 = .ok (.aload_n 0, 1) := by decide +kernel
theorem dX0_init_5 : decode cX0_init 5 = .ok (.bipush 20, 2) := by decide +kernel
theorem dX0_init_7 : decode cX0_init 7 = .ok (.newarray .int, 2) := by decide +kernel
theorem dX0_init_9 : decode cX0_init 9 = .ok (.putfield 9, 3) := by decide +kernel
theorem dX0_init_12 : decode cX0_init 12 = .ok (.aload_n 0, 1) := by decide +kernel
theorem dX0_init_13 : decode cX0_init 13 = .ok (.iconst 0, 1) := by decide +kernel
theorem dX0_init_14 : decode cX0_init 14 = .ok (.putfield 15, 3) := by decide +kernel
theorem dX0_init_17 : decode cX0_init 17 = .ok (.aload_n 0, 1) := by decide +kernel
theorem dX0_init_18 : decode cX0_init 18 = .ok (.iconst 0, 1) := by decide +kernel
theorem dX0_init_19 : decode cX0_init 19 = .ok (.putfield 19, 3) := by decide +kernel
theorem dX0_init_22 : decode cX0_init 22 = .ok (.aload_n 0, 1) := by decide +kernel
theorem dX0_init_23 : decode cX0_init 23 = .ok (.iconst 0, 1) := by decide +kernel
theorem dX0_init_24 : decode cX0_init 24 = .ok (.putfield 22, 3) := by decide +kernel
theorem dX0_init_27 : decode cX0_init 27 = .ok (.aload_n 0, 1) := by decide +kernel
theorem dX0_init_28 : decode cX0_init 28 = .ok (.iconst 0, 1) := by decide +kernel
theorem dX0_init_29 : decode cX0_init 29 = .ok (.putfield 25, 3) := by decide +kernel
theorem dX0_init_32 : decode cX0_init 32 = .ok (.return_, 1) := by decide +kernel
theorem dX0_does_0 : decode cX0_does 0 = .ok (.aload_n 0, 1) := by decide +kernel
theorem dX0_does_1 : decode cX0_does 1 = .ok (.iload_n 3, 1) := by decide +kernel
theorem dX0_does_2 : decode cX0_does 2 = .ok (.putfield 19, 3) := by decide +kernel
theorem dX0_does_5 : decode cX0_does 5 = .ok (.aload_n 0, 1) := by decide +kernel
theorem dX0_does_6 : decode cX0_does 6 = .ok (.iload 4, 2) := by decide +kernel
theorem dX0_does_8 : decode cX0_does 8 = .ok (.putfield 22, 3) := by decide +kernel
theorem dX0_does_11 : decode cX0_does 11 = .ok (.aload_n 0, 1) := by decide +kernel
theorem dX0_does_12 : decode cX0_does 12 = .ok (.iload 5, 2) := by decide +kernel
theorem dX0_does_14 : decode cX0_does 14 = .ok (.putfield 25, 3) := by decide +kernel
theorem dX0_does_17 : decode cX0_does 17 = .ok (.aload_n 0, 1) := by decide +kernel
theorem dX0_does_18 : decode cX0_does 18 = .ok (.iload_n 1, 1) := by decide +kernel
theorem dX0_does_19 : decode cX0_does 19 = .ok (.iload_n 2, 1) := by decide +kernel
theorem dX0_does_20 : decode cX0_does 20 = .ok (.iconst 0, 1) := by decide +kernel
theorem dX0_does_21 : decode cX0_does 21 = .ok (.invokevirtual 28, 3) := by decide +kernel
theorem dX0_does_24 : decode cX0_does 24 = .ok (.ireturn, 1) := by decide +kernel
theorem dX0_isUnder_0 : decode cX0_isUnder 0 = .ok (.iload_n 1, 1) := by decide +kernel
theorem dX0_isUnder_1 : decode cX0_isUnder 1 = .ok (.istore_n 3, 1) := by decide +kernel
theorem dX0_isUnder_2 : decode cX0_isUnder 2 = .ok (.iconst 0, 1) := by decide +kernel
theorem dX0_isUnder_3 : decode cX0_isUnder 3 = .ok (.istore 4, 2) := by decide +kernel
theorem dX0_isUnder_5 : decode cX0_isUnder 5 = .ok (.iload 4, 2) := by decide +kernel
theorem dX0_isUnder_7 : decode cX0_isUnder 7 = .ok (.getstatic 32, 3) := by decide +kernel
theorem dX0_isUnder_10 : decode cX0_isUnder 10 = .ok (.arraylength, 1) := by decide +kernel
theorem dX0_isUnder_11 : decode cX0_isUnder 11 = .ok (.if_icmp .ge 24, 3) := by decide +kernel
theorem dX0_isUnder_14 : decode cX0_isUnder 14 = .ok (.iload_n 3, 1) := by decide +kernel
theorem dX0_isUnder_15 : decode cX0_isUnder 15 = .ok (.ifCond .lt 20, 3) := by decide +kernel
theorem dX0_isUnder_18 : decode cX0_isUnder 18 = .ok (.iload_n 3, 1) := by decide +kernel
theorem dX0_isUnder_19 : decode cX0_isUnder 19 = .ok (.iload_n 2, 1) := by decide +kernel
theorem dX0_isUnder_20 : decode cX0_isUnder 20 = .ok (.if_icmp .eq 15, 3) := by decide +kernel
theorem dX0_isUnder_23 : decode cX0_isUnder 23 = .ok (.getstatic 32, 3) := by decide +kernel
theorem dX0_isUnder_26 : decode cX0_isUnder 26 = .ok (.iload_n 3, 1) := by decide +kernel
theorem dX0_isUnder_27 : decode cX0_isUnder 27 = .ok (.iaload, 1) := by decide +kernel
theorem dX0_isUnder_28 : decode cX0_isUnder 28 = .ok (.istore_n 3, 1) := by decide +kernel
theorem dX0_isUnder_29 : decode cX0_isUnder 29 = .ok (.iinc 4 1, 3) := by decide +kernel
theorem dX0_isUnder_32 : decode cX0_isUnder 32 = .ok (.goto (-27), 3) := by decide +kernel
theorem dX0_isUnder_35 : decode cX0_isUnder 35 = .ok (.iload_n 3, 1) := by decide +kernel
theorem dX0_isUnder_36 : decode cX0_isUnder 36 = .ok (.iload_n 2, 1) := by decide +kernel
theorem dX0_isUnder_37 : decode cX0_isUnder 37 = .ok (.if_icmp .ne 7, 3) := by decide +kernel
theorem dX0_isUnder_40 : decode cX0_isUnder 40 = .ok (.iconst 1, 1) := by decide +kernel
theorem dX0_isUnder_41 : decode cX0_isUnder 41 = .ok (.goto 4, 3) := by decide +kernel
theorem dX0_isUnder_44 : decode cX0_isUnder 44 = .ok (.iconst 0, 1) := by decide +kernel
theorem dX0_isUnder_45 : decode cX0_isUnder 45 = .ok (.ireturn, 1) := by decide +kernel
theorem dX0_own_0 : decode cX0_own 0 = .ok (.aload_n 0, 1) := by decide +kernel
theorem dX0_own_1 : decode cX0_own 1 = .ok (.getstatic 35, 3) := by decide +kernel
theorem dX0_own_4 : decode cX0_own 4 = .ok (.aload_n 0, 1) := by decide +kernel
theorem dX0_own_5 : decode cX0_own 5 = .ok (.getfield 19, 3) := by decide +kernel
theorem dX0_own_8 : decode cX0_own 8 = .ok (.iconst 3, 1) := by decide +kernel
theorem dX0_own_9 : decode cX0_own 9 = .ok (.imul, 1) := by decide +kernel
theorem dX0_own_10 : decode cX0_own 10 = .ok (.iload_n 1, 1) := by decide +kernel
theorem dX0_own_11 : decode cX0_own 11 = .ok (.iadd, 1) := by decide +kernel
theorem dX0_own_12 : decode cX0_own 12 = .ok (.iaload, 1) := by decide +kernel
theorem dX0_own_13 : decode cX0_own 13 = .ok (.iload_n 2, 1) := by decide +kernel
theorem dX0_own_14 : decode cX0_own 14 = .ok (.iload_n 3, 1) := by decide +kernel
theorem dX0_own_15 : decode cX0_own 15 = .ok (.iconst 1, 1) := by decide +kernel
theorem dX0_own_16 : decode cX0_own 16 = .ok (.iadd, 1) := by decide +kernel
theorem dX0_own_17 : decode cX0_own 17 = .ok (.invokevirtual 38, 3) := by decide +kernel
theorem dX0_own_20 : decode cX0_own 20 = .ok (.ireturn, 1) := by decide +kernel
theorem dX0_above_0 : decode cX0_above 0 = .ok (.iconst 0, 1) := by decide +kernel
theorem dX0_above_1 : decode cX0_above 1 = .ok (.getstatic 32, 3) := by decide +kernel
theorem dX0_above_4 : decode cX0_above 4 = .ok (.iload_n 1, 1) := by decide +kernel
theorem dX0_above_5 : decode cX0_above 5 = .ok (.bipush 10, 2) := by decide +kernel
theorem dX0_above_7 : decode cX0_above 7 = .ok (.idiv, 1) := by decide +kernel
theorem dX0_above_8 : decode cX0_above 8 = .ok (.iconst 1, 1) := by decide +kernel
theorem dX0_above_9 : decode cX0_above 9 = .ok (.isub, 1) := by decide +kernel
theorem dX0_above_10 : decode cX0_above 10 = .ok (.iaload, 1) := by decide +kernel
theorem dX0_above_11 : decode cX0_above 11 = .ok (.invokestatic 41, 3) := by decide +kernel
theorem dX0_above_14 : decode cX0_above 14 = .ok (.istore 5, 2) := by decide +kernel
theorem dX0_above_16 : decode cX0_above 16 = .ok (.aload_n 0, 1) := by decide +kernel
theorem dX0_above_17 : decode cX0_above 17 = .ok (.getstatic 35, 3) := by decide +kernel
theorem dX0_above_20 : decode cX0_above 20 = .ok (.iload 5, 2) := by decide +kernel
theorem dX0_above_22 : decode cX0_above 22 = .ok (.iconst 3, 1) := by decide +kernel
theorem dX0_above_23 : decode cX0_above 23 = .ok (.imul, 1) := by decide +kernel
theorem dX0_above_24 : decode cX0_above 24 = .ok (.iload_n 2, 1) := by decide +kernel
theorem dX0_above_25 : decode cX0_above 25 = .ok (.iadd, 1) := by decide +kernel
theorem dX0_above_26 : decode cX0_above 26 = .ok (.iaload, 1) := by decide +kernel
theorem dX0_above_27 : decode cX0_above 27 = .ok (.iload_n 3, 1) := by decide +kernel
theorem dX0_above_28 : decode cX0_above 28 = .ok (.iload 4, 2) := by decide +kernel
theorem dX0_above_30 : decode cX0_above 30 = .ok (.iconst 1, 1) := by decide +kernel
theorem dX0_above_31 : decode cX0_above 31 = .ok (.iadd, 1) := by decide +kernel
theorem dX0_above_32 : decode cX0_above 32 = .ok (.invokevirtual 38, 3) := by decide +kernel
theorem dX0_above_35 : decode cX0_above 35 = .ok (.ireturn, 1) := by decide +kernel
theorem dX0_runs_0 : decode cX0_runs 0 = .ok (.iload_n 3, 1) := by decide +kernel
theorem dX0_runs_1 : decode cX0_runs 1 = .ok (.bipush 20, 2) := by decide +kernel
theorem dX0_runs_3 : decode cX0_runs 3 = .ok (.if_icmp .le 5, 3) := by decide +kernel
theorem dX0_runs_6 : decode cX0_runs 6 = .ok (.iconst 0, 1) := by decide +kernel
theorem dX0_runs_7 : decode cX0_runs 7 = .ok (.ireturn, 1) := by decide +kernel
theorem dX0_runs_8 : decode cX0_runs 8 = .ok (.aload_n 0, 1) := by decide +kernel
theorem dX0_runs_9 : decode cX0_runs 9 = .ok (.getfield 15, 3) := by decide +kernel
theorem dX0_runs_12 : decode cX0_runs 12 = .ok (.bipush 20, 2) := by decide +kernel
theorem dX0_runs_14 : decode cX0_runs 14 = .ok (.if_icmp .ge 13, 3) := by decide +kernel
theorem dX0_runs_17 : decode cX0_runs 17 = .ok (.aload_n 0, 1) := by decide +kernel
theorem dX0_runs_18 : decode cX0_runs 18 = .ok (.getfield 9, 3) := by decide +kernel
theorem dX0_runs_21 : decode cX0_runs 21 = .ok (.aload_n 0, 1) := by decide +kernel
theorem dX0_runs_22 : decode cX0_runs 22 = .ok (.getfield 15, 3) := by decide +kernel
theorem dX0_runs_25 : decode cX0_runs 25 = .ok (.iload_n 1, 1) := by decide +kernel
theorem dX0_runs_26 : decode cX0_runs 26 = .ok (.iastore, 1) := by decide +kernel
theorem dX0_runs_27 : decode cX0_runs 27 = .ok (.aload_n 0, 1) := by decide +kernel
theorem dX0_runs_28 : decode cX0_runs 28 = .ok (.dup, 1) := by decide +kernel
theorem dX0_runs_29 : decode cX0_runs 29 = .ok (.getfield 15, 3) := by decide +kernel
theorem dX0_runs_32 : decode cX0_runs 32 = .ok (.iconst 1, 1) := by decide +kernel
theorem dX0_runs_33 : decode cX0_runs 33 = .ok (.iadd, 1) := by decide +kernel
theorem dX0_runs_34 : decode cX0_runs 34 = .ok (.putfield 15, 3) := by decide +kernel
theorem dX0_runs_37 : decode cX0_runs 37 = .ok (.iload_n 1, 1) := by decide +kernel
theorem dX0_runs_38 : decode cX0_runs 38 = .ok (.lookupswitch 213 #[(10, 90), (11, 97), (12, 110), (20, 120), (30, 132), (40, 143), (50, 160), (51, 170), (60, 181), (70, 195)], 90) := by decide +kernel
theorem dX0_runs_128 : decode cX0_runs 128 = .ok (.iload_n 2, 1) := by decide +kernel
theorem dX0_runs_129 : decode cX0_runs 129 = .ok (.aload_n 0, 1) := by decide +kernel
theorem dX0_runs_130 : decode cX0_runs 130 = .ok (.getfield 22, 3) := by decide +kernel
theorem dX0_runs_133 : decode cX0_runs 133 = .ok (.iadd, 1) := by decide +kernel
theorem dX0_runs_134 : decode cX0_runs 134 = .ok (.ireturn, 1) := by decide +kernel
theorem dX0_runs_135 : decode cX0_runs 135 = .ok (.aload_n 0, 1) := by decide +kernel
theorem dX0_runs_136 : decode cX0_runs 136 = .ok (.iconst 0, 1) := by decide +kernel
theorem dX0_runs_137 : decode cX0_runs 137 = .ok (.iload_n 2, 1) := by decide +kernel
theorem dX0_runs_138 : decode cX0_runs 138 = .ok (.iload_n 3, 1) := by decide +kernel
theorem dX0_runs_139 : decode cX0_runs 139 = .ok (.invokevirtual 28, 3) := by decide +kernel
theorem dX0_runs_142 : decode cX0_runs 142 = .ok (.aload_n 0, 1) := by decide +kernel
theorem dX0_runs_143 : decode cX0_runs 143 = .ok (.getfield 25, 3) := by decide +kernel
theorem dX0_runs_146 : decode cX0_runs 146 = .ok (.isub, 1) := by decide +kernel
theorem dX0_runs_147 : decode cX0_runs 147 = .ok (.ireturn, 1) := by decide +kernel
theorem dX0_runs_148 : decode cX0_runs 148 = .ok (.aload_n 0, 1) := by decide +kernel
theorem dX0_runs_149 : decode cX0_runs 149 = .ok (.iconst 1, 1) := by decide +kernel
theorem dX0_runs_150 : decode cX0_runs 150 = .ok (.iload_n 2, 1) := by decide +kernel
theorem dX0_runs_151 : decode cX0_runs 151 = .ok (.iload_n 3, 1) := by decide +kernel
theorem dX0_runs_152 : decode cX0_runs 152 = .ok (.invokevirtual 28, 3) := by decide +kernel
theorem dX0_runs_155 : decode cX0_runs 155 = .ok (.iconst 2, 1) := by decide +kernel
theorem dX0_runs_156 : decode cX0_runs 156 = .ok (.imul, 1) := by decide +kernel
theorem dX0_runs_157 : decode cX0_runs 157 = .ok (.ireturn, 1) := by decide +kernel
theorem dX0_runs_158 : decode cX0_runs 158 = .ok (.aload_n 0, 1) := by decide +kernel
theorem dX0_runs_159 : decode cX0_runs 159 = .ok (.iload_n 1, 1) := by decide +kernel
theorem dX0_runs_160 : decode cX0_runs 160 = .ok (.iconst 1, 1) := by decide +kernel
theorem dX0_runs_161 : decode cX0_runs 161 = .ok (.iload_n 2, 1) := by decide +kernel
theorem dX0_runs_162 : decode cX0_runs 162 = .ok (.iload_n 3, 1) := by decide +kernel
theorem dX0_runs_163 : decode cX0_runs 163 = .ok (.invokevirtual 47, 3) := by decide +kernel
theorem dX0_runs_166 : decode cX0_runs 166 = .ok (.bipush 6, 2) := by decide +kernel
theorem dX0_runs_168 : decode cX0_runs 168 = .ok (.ixor, 1) := by decide +kernel
theorem dX0_runs_169 : decode cX0_runs 169 = .ok (.ireturn, 1) := by decide +kernel
theorem dX0_runs_170 : decode cX0_runs 170 = .ok (.aload_n 0, 1) := by decide +kernel
theorem dX0_runs_171 : decode cX0_runs 171 = .ok (.iload_n 1, 1) := by decide +kernel
theorem dX0_runs_172 : decode cX0_runs 172 = .ok (.iconst 0, 1) := by decide +kernel
theorem dX0_runs_173 : decode cX0_runs 173 = .ok (.iload_n 2, 1) := by decide +kernel
theorem dX0_runs_174 : decode cX0_runs 174 = .ok (.iconst 3, 1) := by decide +kernel
theorem dX0_runs_175 : decode cX0_runs 175 = .ok (.imul, 1) := by decide +kernel
theorem dX0_runs_176 : decode cX0_runs 176 = .ok (.iload_n 3, 1) := by decide +kernel
theorem dX0_runs_177 : decode cX0_runs 177 = .ok (.invokevirtual 47, 3) := by decide +kernel
theorem dX0_runs_180 : decode cX0_runs 180 = .ok (.ireturn, 1) := by decide +kernel
theorem dX0_runs_181 : decode cX0_runs 181 = .ok (.aload_n 0, 1) := by decide +kernel
theorem dX0_runs_182 : decode cX0_runs 182 = .ok (.iload_n 1, 1) := by decide +kernel
theorem dX0_runs_183 : decode cX0_runs 183 = .ok (.iconst 2, 1) := by decide +kernel
theorem dX0_runs_184 : decode cX0_runs 184 = .ok (.iload_n 2, 1) := by decide +kernel
theorem dX0_runs_185 : decode cX0_runs 185 = .ok (.iload_n 3, 1) := by decide +kernel
theorem dX0_runs_186 : decode cX0_runs 186 = .ok (.invokevirtual 47, 3) := by decide +kernel
theorem dX0_runs_189 : decode cX0_runs 189 = .ok (.aload_n 0, 1) := by decide +kernel
theorem dX0_runs_190 : decode cX0_runs 190 = .ok (.iconst 1, 1) := by decide +kernel
theorem dX0_runs_191 : decode cX0_runs 191 = .ok (.iconst 1, 1) := by decide +kernel
theorem dX0_runs_192 : decode cX0_runs 192 = .ok (.iload_n 3, 1) := by decide +kernel
theorem dX0_runs_193 : decode cX0_runs 193 = .ok (.invokevirtual 28, 3) := by decide +kernel
theorem dX0_runs_196 : decode cX0_runs 196 = .ok (.iadd, 1) := by decide +kernel
theorem dX0_runs_197 : decode cX0_runs 197 = .ok (.ireturn, 1) := by decide +kernel
theorem dX0_runs_198 : decode cX0_runs 198 = .ok (.aload_n 0, 1) := by decide +kernel
theorem dX0_runs_199 : decode cX0_runs 199 = .ok (.iload_n 1, 1) := by decide +kernel
theorem dX0_runs_200 : decode cX0_runs 200 = .ok (.iconst 0, 1) := by decide +kernel
theorem dX0_runs_201 : decode cX0_runs 201 = .ok (.iload_n 2, 1) := by decide +kernel
theorem dX0_runs_202 : decode cX0_runs 202 = .ok (.iload_n 3, 1) := by decide +kernel
theorem dX0_runs_203 : decode cX0_runs 203 = .ok (.invokevirtual 47, 3) := by decide +kernel
theorem dX0_runs_206 : decode cX0_runs 206 = .ok (.ineg, 1) := by decide +kernel
theorem dX0_runs_207 : decode cX0_runs 207 = .ok (.ireturn, 1) := by decide +kernel
theorem dX0_runs_208 : decode cX0_runs 208 = .ok (.aload_n 0, 1) := by decide +kernel
theorem dX0_runs_209 : decode cX0_runs 209 = .ok (.iload_n 1, 1) := by decide +kernel
theorem dX0_runs_210 : decode cX0_runs 210 = .ok (.iconst 1, 1) := by decide +kernel
theorem dX0_runs_211 : decode cX0_runs 211 = .ok (.iload_n 2, 1) := by decide +kernel
theorem dX0_runs_212 : decode cX0_runs 212 = .ok (.iconst 1, 1) := by decide +kernel
theorem dX0_runs_213 : decode cX0_runs 213 = .ok (.iadd, 1) := by decide +kernel
theorem dX0_runs_214 : decode cX0_runs 214 = .ok (.iload_n 3, 1) := by decide +kernel
theorem dX0_runs_215 : decode cX0_runs 215 = .ok (.invokevirtual 47, 3) := by decide +kernel
theorem dX0_runs_218 : decode cX0_runs 218 = .ok (.ireturn, 1) := by decide +kernel
theorem dX0_runs_219 : decode cX0_runs 219 = .ok (.aload_n 0, 1) := by decide +kernel
theorem dX0_runs_220 : decode cX0_runs 220 = .ok (.iload_n 1, 1) := by decide +kernel
theorem dX0_runs_221 : decode cX0_runs 221 = .ok (.iconst 2, 1) := by decide +kernel
theorem dX0_runs_222 : decode cX0_runs 222 = .ok (.iload_n 2, 1) := by decide +kernel
theorem dX0_runs_223 : decode cX0_runs 223 = .ok (.aload_n 0, 1) := by decide +kernel
theorem dX0_runs_224 : decode cX0_runs 224 = .ok (.getfield 22, 3) := by decide +kernel
theorem dX0_runs_227 : decode cX0_runs 227 = .ok (.isub, 1) := by decide +kernel
theorem dX0_runs_228 : decode cX0_runs 228 = .ok (.iload_n 3, 1) := by decide +kernel
theorem dX0_runs_229 : decode cX0_runs 229 = .ok (.invokevirtual 47, 3) := by decide +kernel
theorem dX0_runs_232 : decode cX0_runs 232 = .ok (.ireturn, 1) := by decide +kernel
theorem dX0_runs_233 : decode cX0_runs 233 = .ok (.aload_n 0, 1) := by decide +kernel
theorem dX0_runs_234 : decode cX0_runs 234 = .ok (.iload_n 1, 1) := by decide +kernel
theorem dX0_runs_235 : decode cX0_runs 235 = .ok (.iconst 1, 1) := by decide +kernel
theorem dX0_runs_236 : decode cX0_runs 236 = .ok (.iload_n 2, 1) := by decide +kernel
theorem dX0_runs_237 : decode cX0_runs 237 = .ok (.iload_n 3, 1) := by decide +kernel
theorem dX0_runs_238 : decode cX0_runs 238 = .ok (.invokevirtual 47, 3) := by decide +kernel
theorem dX0_runs_241 : decode cX0_runs 241 = .ok (.aload_n 0, 1) := by decide +kernel
theorem dX0_runs_242 : decode cX0_runs 242 = .ok (.iload_n 1, 1) := by decide +kernel
theorem dX0_runs_243 : decode cX0_runs 243 = .ok (.iconst 0, 1) := by decide +kernel
theorem dX0_runs_244 : decode cX0_runs 244 = .ok (.iconst 2, 1) := by decide +kernel
theorem dX0_runs_245 : decode cX0_runs 245 = .ok (.iload_n 3, 1) := by decide +kernel
theorem dX0_runs_246 : decode cX0_runs 246 = .ok (.invokevirtual 47, 3) := by decide +kernel
theorem dX0_runs_249 : decode cX0_runs 249 = .ok (.iadd, 1) := by decide +kernel
theorem dX0_runs_250 : decode cX0_runs 250 = .ok (.ireturn, 1) := by decide +kernel
theorem dX0_runs_251 : decode cX0_runs 251 = .ok (.aload_n 0, 1) := by decide +kernel
theorem dX0_runs_252 : decode cX0_runs 252 = .ok (.iload_n 1, 1) := by decide +kernel
theorem dX0_runs_253 : decode cX0_runs 253 = .ok (.iconst 0, 1) := by decide +kernel
theorem dX0_runs_254 : decode cX0_runs 254 = .ok (.iload_n 2, 1) := by decide +kernel
theorem dX0_runs_255 : decode cX0_runs 255 = .ok (.iload_n 3, 1) := by decide +kernel
theorem dX0_runs_256 : decode cX0_runs 256 = .ok (.invokevirtual 47, 3) := by decide +kernel
theorem dX0_runs_259 : decode cX0_runs 259 = .ok (.aload_n 0, 1) := by decide +kernel
theorem dX0_runs_260 : decode cX0_runs 260 = .ok (.getfield 25, 3) := by decide +kernel
theorem dX0_runs_263 : decode cX0_runs 263 = .ok (.ixor, 1) := by decide +kernel
theorem dX0_runs_264 : decode cX0_runs 264 = .ok (.ireturn, 1) := by decide +kernel
theorem dX1_init_0 : decode cX1_init 0 = .ok (.aload_n 0, 1) := by decide +kernel
theorem dX1_init_1 : decode cX1_init 1 = .ok (.invokespecial 3, 3) := by decide +kernel
theorem dX1_init_4 : decode cX1_init 4 = .ok (.aload_n 0, 1) := by decide +kernel
theorem dX1_init_5 : decode cX1_init 5 = .ok (.bipush 10, 2) := by decide +kernel
theorem dX1_init_7 : decode cX1_init 7 = .ok (.newarray .int, 2) := by decide +kernel
theorem dX1_init_9 : decode cX1_init 9 = .ok (.putfield 9, 3) := by decide +kernel
theorem dX1_init_12 : decode cX1_init 12 = .ok (.aload_n 0, 1) := by decide +kernel
theorem dX1_init_13 : decode cX1_init 13 = .ok (.bipush 10, 2) := by decide +kernel
theorem dX1_init_15 : decode cX1_init 15 = .ok (.newarray .int, 2) := by decide +kernel
theorem dX1_init_17 : decode cX1_init 17 = .ok (.putfield 15, 3) := by decide +kernel
theorem dX1_init_20 : decode cX1_init 20 = .ok (.aload_n 0, 1) := by decide +kernel
theorem dX1_init_21 : decode cX1_init 21 = .ok (.bipush 10, 2) := by decide +kernel
theorem dX1_init_23 : decode cX1_init 23 = .ok (.newarray .int, 2) := by decide +kernel
theorem dX1_init_25 : decode cX1_init 25 = .ok (.putfield 18, 3) := by decide +kernel
theorem dX1_init_28 : decode cX1_init 28 = .ok (.aload_n 0, 1) := by decide +kernel
theorem dX1_init_29 : decode cX1_init 29 = .ok (.bipush 100, 2) := by decide +kernel
theorem dX1_init_31 : decode cX1_init 31 = .ok (.newarray .int, 2) := by decide +kernel
theorem dX1_init_33 : decode cX1_init 33 = .ok (.putfield 21, 3) := by decide +kernel
theorem dX1_init_36 : decode cX1_init 36 = .ok (.aload_n 0, 1) := by decide +kernel
theorem dX1_init_37 : decode cX1_init 37 = .ok (.bipush 100, 2) := by decide +kernel
theorem dX1_init_39 : decode cX1_init 39 = .ok (.newarray .int, 2) := by decide +kernel
theorem dX1_init_41 : decode cX1_init 41 = .ok (.putfield 24, 3) := by decide +kernel
theorem dX1_init_44 : decode cX1_init 44 = .ok (.aload_n 0, 1) := by decide +kernel
theorem dX1_init_45 : decode cX1_init 45 = .ok (.bipush 100, 2) := by decide +kernel
theorem dX1_init_47 : decode cX1_init 47 = .ok (.newarray .int, 2) := by decide +kernel
theorem dX1_init_49 : decode cX1_init 49 = .ok (.putfield 27, 3) := by decide +kernel
theorem dX1_init_52 : decode cX1_init 52 = .ok (.aload_n 0, 1) := by decide +kernel
theorem dX1_init_53 : decode cX1_init 53 = .ok (.bipush 100, 2) := by decide +kernel
theorem dX1_init_55 : decode cX1_init 55 = .ok (.newarray .int, 2) := by decide +kernel
theorem dX1_init_57 : decode cX1_init 57 = .ok (.putfield 30, 3) := by decide +kernel
theorem dX1_init_60 : decode cX1_init 60 = .ok (.aload_n 0, 1) := by decide +kernel
theorem dX1_init_61 : decode cX1_init 61 = .ok (.iconst 0, 1) := by decide +kernel
theorem dX1_init_62 : decode cX1_init 62 = .ok (.putfield 33, 3) := by decide +kernel
theorem dX1_init_65 : decode cX1_init 65 = .ok (.aload_n 0, 1) := by decide +kernel
theorem dX1_init_66 : decode cX1_init 66 = .ok (.iconst 0, 1) := by decide +kernel
theorem dX1_init_67 : decode cX1_init 67 = .ok (.putfield 37, 3) := by decide +kernel
theorem dX1_init_70 : decode cX1_init 70 = .ok (.aload_n 0, 1) := by decide +kernel
theorem dX1_init_71 : decode cX1_init 71 = .ok (.bipush 8, 2) := by decide +kernel
theorem dX1_init_73 : decode cX1_init 73 = .ok (.putfield 40, 3) := by decide +kernel
theorem dX1_init_76 : decode cX1_init 76 = .ok (.aload_n 0, 1) := by decide +kernel
theorem dX1_init_77 : decode cX1_init 77 = .ok (.iconst 0, 1) := by decide +kernel
theorem dX1_init_78 : decode cX1_init 78 = .ok (.putfield 43, 3) := by decide +kernel
theorem dX1_init_81 : decode cX1_init 81 = .ok (.aload_n 0, 1) := by decide +kernel
theorem dX1_init_82 : decode cX1_init 82 = .ok (.iconst 1, 1) := by decide +kernel
theorem dX1_init_83 : decode cX1_init 83 = .ok (.putfield 46, 3) := by decide +kernel
theorem dX1_init_86 : decode cX1_init 86 = .ok (.return_, 1) := by decide +kernel
theorem dX1_clear_0 : decode cX1_clear 0 = .ok (.aload_n 0, 1) := by decide +kernel
theorem dX1_clear_1 : decode cX1_clear 1 = .ok (.iconst 0, 1) := by decide +kernel
theorem dX1_clear_2 : decode cX1_clear 2 = .ok (.putfield 33, 3) := by decide +kernel
theorem dX1_clear_5 : decode cX1_clear 5 = .ok (.aload_n 0, 1) := by decide +kernel
theorem dX1_clear_6 : decode cX1_clear 6 = .ok (.iconst 0, 1) := by decide +kernel
theorem dX1_clear_7 : decode cX1_clear 7 = .ok (.putfield 37, 3) := by decide +kernel
theorem dX1_clear_10 : decode cX1_clear 10 = .ok (.aload_n 0, 1) := by decide +kernel
theorem dX1_clear_11 : decode cX1_clear 11 = .ok (.bipush 8, 2) := by decide +kernel
theorem dX1_clear_13 : decode cX1_clear 13 = .ok (.putfield 40, 3) := by decide +kernel
theorem dX1_clear_16 : decode cX1_clear 16 = .ok (.aload_n 0, 1) := by decide +kernel
theorem dX1_clear_17 : decode cX1_clear 17 = .ok (.iconst 0, 1) := by decide +kernel
theorem dX1_clear_18 : decode cX1_clear 18 = .ok (.putfield 43, 3) := by decide +kernel
theorem dX1_clear_21 : decode cX1_clear 21 = .ok (.aload_n 0, 1) := by decide +kernel
theorem dX1_clear_22 : decode cX1_clear 22 = .ok (.iconst 1, 1) := by decide +kernel
theorem dX1_clear_23 : decode cX1_clear 23 = .ok (.putfield 46, 3) := by decide +kernel
theorem dX1_clear_26 : decode cX1_clear 26 = .ok (.return_, 1) := by decide +kernel
theorem dX1_addSign_0 : decode cX1_addSign 0 = .ok (.aload_n 0, 1) := by decide +kernel
theorem dX1_addSign_1 : decode cX1_addSign 1 = .ok (.getfield 37, 3) := by decide +kernel
theorem dX1_addSign_4 : decode cX1_addSign 4 = .ok (.bipush 100, 2) := by decide +kernel
theorem dX1_addSign_6 : decode cX1_addSign 6 = .ok (.if_icmp .ge 23, 3) := by decide +kernel
theorem dX1_addSign_9 : decode cX1_addSign 9 = .ok (.aload_n 0, 1) := by decide +kernel
theorem dX1_addSign_10 : decode cX1_addSign 10 = .ok (.getfield 21, 3) := by decide +kernel
theorem dX1_addSign_13 : decode cX1_addSign 13 = .ok (.aload_n 0, 1) := by decide +kernel
theorem dX1_addSign_14 : decode cX1_addSign 14 = .ok (.getfield 37, 3) := by decide +kernel
theorem dX1_addSign_17 : decode cX1_addSign 17 = .ok (.iload_n 1, 1) := by decide +kernel
theorem dX1_addSign_18 : decode cX1_addSign 18 = .ok (.iastore, 1) := by decide +kernel
theorem dX1_addSign_19 : decode cX1_addSign 19 = .ok (.aload_n 0, 1) := by decide +kernel
theorem dX1_addSign_20 : decode cX1_addSign 20 = .ok (.dup, 1) := by decide +kernel
theorem dX1_addSign_21 : decode cX1_addSign 21 = .ok (.getfield 37, 3) := by decide +kernel
theorem dX1_addSign_24 : decode cX1_addSign 24 = .ok (.iconst 1, 1) := by decide +kernel
theorem dX1_addSign_25 : decode cX1_addSign 25 = .ok (.iadd, 1) := by decide +kernel
theorem dX1_addSign_26 : decode cX1_addSign 26 = .ok (.putfield 37, 3) := by decide +kernel
theorem dX1_addSign_29 : decode cX1_addSign 29 = .ok (.return_, 1) := by decide +kernel
theorem dX1_addTest_0 : decode cX1_addTest 0 = .ok (.aload_n 0, 1) := by decide +kernel
theorem dX1_addTest_1 : decode cX1_addTest 1 = .ok (.getfield 37, 3) := by decide +kernel
theorem dX1_addTest_4 : decode cX1_addTest 4 = .ok (.bipush 100, 2) := by decide +kernel
theorem dX1_addTest_6 : decode cX1_addTest 6 = .ok (.if_icmp .lt 4, 3) := by decide +kernel
theorem dX1_addTest_9 : decode cX1_addTest 9 = .ok (.return_, 1) := by decide +kernel
theorem dX1_addTest_10 : decode cX1_addTest 10 = .ok (.aload_n 0, 1) := by decide +kernel
theorem dX1_addTest_11 : decode cX1_addTest 11 = .ok (.getfield 24, 3) := by decide +kernel
theorem dX1_addTest_14 : decode cX1_addTest 14 = .ok (.aload_n 0, 1) := by decide +kernel
theorem dX1_addTest_15 : decode cX1_addTest 15 = .ok (.getfield 37, 3) := by decide +kernel
theorem dX1_addTest_18 : decode cX1_addTest 18 = .ok (.iload_n 1, 1) := by decide +kernel
theorem dX1_addTest_19 : decode cX1_addTest 19 = .ok (.iastore, 1) := by decide +kernel
theorem dX1_addTest_20 : decode cX1_addTest 20 = .ok (.aload_n 0, 1) := by decide +kernel
theorem dX1_addTest_21 : decode cX1_addTest 21 = .ok (.getfield 27, 3) := by decide +kernel
theorem dX1_addTest_24 : decode cX1_addTest 24 = .ok (.aload_n 0, 1) := by decide +kernel
theorem dX1_addTest_25 : decode cX1_addTest 25 = .ok (.getfield 37, 3) := by decide +kernel
theorem dX1_addTest_28 : decode cX1_addTest 28 = .ok (.iload_n 2, 1) := by decide +kernel
theorem dX1_addTest_29 : decode cX1_addTest 29 = .ok (.ifCond .ne 7, 3) := by decide +kernel
theorem dX1_addTest_32 : decode cX1_addTest 32 = .ok (.iconst 0, 1) := by decide +kernel
theorem dX1_addTest_33 : decode cX1_addTest 33 = .ok (.goto 15, 3) := by decide +kernel
theorem dX1_addTest_36 : decode cX1_addTest 36 = .ok (.iload_n 2, 1) := by decide +kernel
theorem dX1_addTest_37 : decode cX1_addTest 37 = .ok (.iconst 1, 1) := by decide +kernel
theorem dX1_addTest_38 : decode cX1_addTest 38 = .ok (.if_icmp .ne 7, 3) := by decide +kernel
theorem dX1_addTest_41 : decode cX1_addTest 41 = .ok (.iload_n 3, 1) := by decide +kernel
theorem dX1_addTest_42 : decode cX1_addTest 42 = .ok (.goto 6, 3) := by decide +kernel
theorem dX1_addTest_45 : decode cX1_addTest 45 = .ok (.iload_n 3, 1) := by decide +kernel
theorem dX1_addTest_46 : decode cX1_addTest 46 = .ok (.iconst 1, 1) := by decide +kernel
theorem dX1_addTest_47 : decode cX1_addTest 47 = .ok (.iadd, 1) := by decide +kernel
theorem dX1_addTest_48 : decode cX1_addTest 48 = .ok (.iastore, 1) := by decide +kernel
theorem dX1_addTest_49 : decode cX1_addTest 49 = .ok (.aload_n 0, 1) := by decide +kernel
theorem dX1_addTest_50 : decode cX1_addTest 50 = .ok (.getfield 30, 3) := by decide +kernel
theorem dX1_addTest_53 : decode cX1_addTest 53 = .ok (.aload_n 0, 1) := by decide +kernel
theorem dX1_addTest_54 : decode cX1_addTest 54 = .ok (.getfield 37, 3) := by decide +kernel
theorem dX1_addTest_57 : decode cX1_addTest 57 = .ok (.iload_n 2, 1) := by decide +kernel
theorem dX1_addTest_58 : decode cX1_addTest 58 = .ok (.ifCond .ne 9, 3) := by decide +kernel
theorem dX1_addTest_61 : decode cX1_addTest 61 = .ok (.iload_n 3, 1) := by decide +kernel
theorem dX1_addTest_62 : decode cX1_addTest 62 = .ok (.iconst 1, 1) := by decide +kernel
theorem dX1_addTest_63 : decode cX1_addTest 63 = .ok (.isub, 1) := by decide +kernel
theorem dX1_addTest_64 : decode cX1_addTest 64 = .ok (.goto 14, 3) := by decide +kernel
theorem dX1_addTest_67 : decode cX1_addTest 67 = .ok (.iload_n 2, 1) := by decide +kernel
theorem dX1_addTest_68 : decode cX1_addTest 68 = .ok (.iconst 1, 1) := by decide +kernel
theorem dX1_addTest_69 : decode cX1_addTest 69 = .ok (.if_icmp .ne 7, 3) := by decide +kernel
theorem dX1_addTest_72 : decode cX1_addTest 72 = .ok (.iload_n 3, 1) := by decide +kernel
theorem dX1_addTest_73 : decode cX1_addTest 73 = .ok (.goto 5, 3) := by decide +kernel
theorem dX1_addTest_76 : decode cX1_addTest 76 = .ok (.bipush 99, 2) := by decide +kernel
theorem dX1_addTest_78 : decode cX1_addTest 78 = .ok (.iastore, 1) := by decide +kernel
theorem dX1_addTest_79 : decode cX1_addTest 79 = .ok (.aload_n 0, 1) := by decide +kernel
theorem dX1_addTest_80 : decode cX1_addTest 80 = .ok (.getfield 21, 3) := by decide +kernel
theorem dX1_addTest_83 : decode cX1_addTest 83 = .ok (.aload_n 0, 1) := by decide +kernel
theorem dX1_addTest_84 : decode cX1_addTest 84 = .ok (.getfield 37, 3) := by decide +kernel
theorem dX1_addTest_87 : decode cX1_addTest 87 = .ok (.iconst 0, 1) := by decide +kernel
theorem dX1_addTest_88 : decode cX1_addTest 88 = .ok (.iastore, 1) := by decide +kernel
theorem dX1_addTest_89 : decode cX1_addTest 89 = .ok (.aload_n 0, 1) := by decide +kernel
theorem dX1_addTest_90 : decode cX1_addTest 90 = .ok (.dup, 1) := by decide +kernel
theorem dX1_addTest_91 : decode cX1_addTest 91 = .ok (.getfield 37, 3) := by decide +kernel
theorem dX1_addTest_94 : decode cX1_addTest 94 = .ok (.iconst 1, 1) := by decide +kernel
theorem dX1_addTest_95 : decode cX1_addTest 95 = .ok (.iadd, 1) := by decide +kernel
theorem dX1_addTest_96 : decode cX1_addTest 96 = .ok (.putfield 37, 3) := by decide +kernel
theorem dX1_addTest_99 : decode cX1_addTest 99 = .ok (.return_, 1) := by decide +kernel
theorem dX1_addClause_0 : decode cX1_addClause 0 = .ok (.aload_n 0, 1) := by decide +kernel
theorem dX1_addClause_1 : decode cX1_addClause 1 = .ok (.getfield 33, 3) := by decide +kernel
theorem dX1_addClause_4 : decode cX1_addClause 4 = .ok (.bipush 10, 2) := by decide +kernel
theorem dX1_addClause_6 : decode cX1_addClause 6 = .ok (.if_icmp .lt 4, 3) := by decide +kernel
theorem dX1_addClause_9 : decode cX1_addClause 9 = .ok (.return_, 1) := by decide +kernel
theorem dX1_addClause_10 : decode cX1_addClause 10 = .ok (.aload_n 0, 1) := by decide +kernel
theorem dX1_addClause_11 : decode cX1_addClause 11 = .ok (.getfield 9, 3) := by decide +kernel
theorem dX1_addClause_14 : decode cX1_addClause 14 = .ok (.aload_n 0, 1) := by decide +kernel
theorem dX1_addClause_15 : decode cX1_addClause 15 = .ok (.getfield 33, 3) := by decide +kernel
theorem dX1_addClause_18 : decode cX1_addClause 18 = .ok (.iload_n 1, 1) := by decide +kernel
theorem dX1_addClause_19 : decode cX1_addClause 19 = .ok (.iastore, 1) := by decide +kernel
theorem dX1_addClause_20 : decode cX1_addClause 20 = .ok (.aload_n 0, 1) := by decide +kernel
theorem dX1_addClause_21 : decode cX1_addClause 21 = .ok (.getfield 15, 3) := by decide +kernel
theorem dX1_addClause_24 : decode cX1_addClause 24 = .ok (.aload_n 0, 1) := by decide +kernel
theorem dX1_addClause_25 : decode cX1_addClause 25 = .ok (.getfield 33, 3) := by decide +kernel
theorem dX1_addClause_28 : decode cX1_addClause 28 = .ok (.iload_n 2, 1) := by decide +kernel
theorem dX1_addClause_29 : decode cX1_addClause 29 = .ok (.iastore, 1) := by decide +kernel
theorem dX1_addClause_30 : decode cX1_addClause 30 = .ok (.aload_n 0, 1) := by decide +kernel
theorem dX1_addClause_31 : decode cX1_addClause 31 = .ok (.getfield 18, 3) := by decide +kernel
theorem dX1_addClause_34 : decode cX1_addClause 34 = .ok (.aload_n 0, 1) := by decide +kernel
theorem dX1_addClause_35 : decode cX1_addClause 35 = .ok (.getfield 33, 3) := by decide +kernel
theorem dX1_addClause_38 : decode cX1_addClause 38 = .ok (.aload_n 0, 1) := by decide +kernel
theorem dX1_addClause_39 : decode cX1_addClause 39 = .ok (.getfield 37, 3) := by decide +kernel
theorem dX1_addClause_42 : decode cX1_addClause 42 = .ok (.iastore, 1) := by decide +kernel
theorem dX1_addClause_43 : decode cX1_addClause 43 = .ok (.aload_n 0, 1) := by decide +kernel
theorem dX1_addClause_44 : decode cX1_addClause 44 = .ok (.dup, 1) := by decide +kernel
theorem dX1_addClause_45 : decode cX1_addClause 45 = .ok (.getfield 33, 3) := by decide +kernel
theorem dX1_addClause_48 : decode cX1_addClause 48 = .ok (.iconst 1, 1) := by decide +kernel
theorem dX1_addClause_49 : decode cX1_addClause 49 = .ok (.iadd, 1) := by decide +kernel
theorem dX1_addClause_50 : decode cX1_addClause 50 = .ok (.putfield 33, 3) := by decide +kernel
theorem dX1_addClause_53 : decode cX1_addClause 53 = .ok (.iload_n 1, 1) := by decide +kernel
theorem dX1_addClause_54 : decode cX1_addClause 54 = .ok (.tableswitch 56 2 4 #[26, 34, 44], 26) := by decide +kernel
theorem dX1_addClause_80 : decode cX1_addClause 80 = .ok (.aload_n 0, 1) := by decide +kernel
theorem dX1_addClause_81 : decode cX1_addClause 81 = .ok (.iload_n 2, 1) := by decide +kernel
theorem dX1_addClause_82 : decode cX1_addClause 82 = .ok (.putfield 40, 3) := by decide +kernel
theorem dX1_addClause_85 : decode cX1_addClause 85 = .ok (.goto 25, 3) := by decide +kernel
theorem dX1_addClause_88 : decode cX1_addClause 88 = .ok (.aload_n 0, 1) := by decide +kernel
theorem dX1_addClause_89 : decode cX1_addClause 89 = .ok (.iload_n 2, 1) := by decide +kernel
theorem dX1_addClause_90 : decode cX1_addClause 90 = .ok (.iconst 3, 1) := by decide +kernel
theorem dX1_addClause_91 : decode cX1_addClause 91 = .ok (.irem, 1) := by decide +kernel
theorem dX1_addClause_92 : decode cX1_addClause 92 = .ok (.putfield 43, 3) := by decide +kernel
theorem dX1_addClause_95 : decode cX1_addClause 95 = .ok (.goto 15, 3) := by decide +kernel
theorem dX1_addClause_98 : decode cX1_addClause 98 = .ok (.aload_n 0, 1) := by decide +kernel
theorem dX1_addClause_99 : decode cX1_addClause 99 = .ok (.iconst 1, 1) := by decide +kernel
theorem dX1_addClause_100 : decode cX1_addClause 100 = .ok (.iload_n 2, 1) := by decide +kernel
theorem dX1_addClause_101 : decode cX1_addClause 101 = .ok (.invokestatic 49, 3) := by decide +kernel
theorem dX1_addClause_104 : decode cX1_addClause 104 = .ok (.putfield 46, 3) := by decide +kernel
theorem dX1_addClause_107 : decode cX1_addClause 107 = .ok (.goto 3, 3) := by decide +kernel
theorem dX1_addClause_110 : decode cX1_addClause 110 = .ok (.return_, 1) := by decide +kernel
theorem dX1_together_0 : decode cX1_together 0 = .ok (.iconst 0, 1) := by decide +kernel
theorem dX1_together_1 : decode cX1_together 1 = .ok (.istore_n 3, 1) := by decide +kernel
theorem dX1_together_2 : decode cX1_together 2 = .ok (.iconst 0, 1) := by decide +kernel
theorem dX1_together_3 : decode cX1_together 3 = .ok (.istore 4, 2) := by decide +kernel
theorem dX1_together_5 : decode cX1_together 5 = .ok (.iconst 0, 1) := by decide +kernel
theorem dX1_together_6 : decode cX1_together 6 = .ok (.istore 5, 2) := by decide +kernel
theorem dX1_together_8 : decode cX1_together 8 = .ok (.iload 5, 2) := by decide +kernel
theorem dX1_together_10 : decode cX1_together 10 = .ok (.aload_n 0, 1) := by decide +kernel
theorem dX1_together_11 : decode cX1_together 11 = .ok (.getfield 33, 3) := by decide +kernel
theorem dX1_together_14 : decode cX1_together 14 = .ok (.if_icmp .ge 48, 3) := by decide +kernel
theorem dX1_together_17 : decode cX1_together 17 = .ok (.aload_n 0, 1) := by decide +kernel
theorem dX1_together_18 : decode cX1_together 18 = .ok (.getfield 9, 3) := by decide +kernel
theorem dX1_together_21 : decode cX1_together 21 = .ok (.iload 5, 2) := by decide +kernel
theorem dX1_together_23 : decode cX1_together 23 = .ok (.iaload, 1) := by decide +kernel
theorem dX1_together_24 : decode cX1_together 24 = .ok (.iload_n 1, 1) := by decide +kernel
theorem dX1_together_25 : decode cX1_together 25 = .ok (.if_icmp .ne 31, 3) := by decide +kernel
theorem dX1_together_28 : decode cX1_together 28 = .ok (.iconst 1, 1) := by decide +kernel
theorem dX1_together_29 : decode cX1_together 29 = .ok (.istore_n 3, 1) := by decide +kernel
theorem dX1_together_30 : decode cX1_together 30 = .ok (.iload 4, 2) := by decide +kernel
theorem dX1_together_32 : decode cX1_together 32 = .ok (.aload_n 0, 1) := by decide +kernel
theorem dX1_together_33 : decode cX1_together 33 = .ok (.iload 5, 2) := by decide +kernel
theorem dX1_together_35 : decode cX1_together 35 = .ok (.aload_n 2, 1) := by decide +kernel
theorem dX1_together_36 : decode cX1_together 36 = .ok (.invokevirtual 55, 3) := by decide +kernel
theorem dX1_together_39 : decode cX1_together 39 = .ok (.ifCond .eq 13, 3) := by decide +kernel
theorem dX1_together_42 : decode cX1_together 42 = .ok (.aload_n 0, 1) := by decide +kernel
theorem dX1_together_43 : decode cX1_together 43 = .ok (.getfield 15, 3) := by decide +kernel
theorem dX1_together_46 : decode cX1_together 46 = .ok (.iload 5, 2) := by decide +kernel
theorem dX1_together_48 : decode cX1_together 48 = .ok (.iaload, 1) := by decide +kernel
theorem dX1_together_49 : decode cX1_together 49 = .ok (.goto 4, 3) := by decide +kernel
theorem dX1_together_52 : decode cX1_together 52 = .ok (.iconst 0, 1) := by decide +kernel
theorem dX1_together_53 : decode cX1_together 53 = .ok (.iadd, 1) := by decide +kernel
theorem dX1_together_54 : decode cX1_together 54 = .ok (.istore 4, 2) := by decide +kernel
theorem dX1_together_56 : decode cX1_together 56 = .ok (.iinc 5 1, 3) := by decide +kernel
theorem dX1_together_59 : decode cX1_together 59 = .ok (.goto (-51), 3) := by decide +kernel
theorem dX1_together_62 : decode cX1_together 62 = .ok (.iload_n 3, 1) := by decide +kernel
theorem dX1_together_63 : decode cX1_together 63 = .ok (.ifCond .eq 6, 3) := by decide +kernel
theorem dX1_together_66 : decode cX1_together 66 = .ok (.iload 4, 2) := by decide +kernel
theorem dX1_together_68 : decode cX1_together 68 = .ok (.ireturn, 1) := by decide +kernel
theorem dX1_together_69 : decode cX1_together 69 = .ok (.iload_n 1, 1) := by decide +kernel
theorem dX1_together_70 : decode cX1_together 70 = .ok (.ifCond .ne 7, 3) := by decide +kernel
theorem dX1_together_73 : decode cX1_together 73 = .ok (.iconst 1, 1) := by decide +kernel
theorem dX1_together_74 : decode cX1_together 74 = .ok (.goto 4, 3) := by decide +kernel
theorem dX1_together_77 : decode cX1_together 77 = .ok (.iconst 5, 1) := by decide +kernel
theorem dX1_together_78 : decode cX1_together 78 = .ok (.ireturn, 1) := by decide +kernel
theorem dX1_holds_0 : decode cX1_holds 0 = .ok (.iconst 0, 1) := by decide +kernel
theorem dX1_holds_1 : decode cX1_holds 1 = .ok (.istore_n 3, 1) := by decide +kernel
theorem dX1_holds_2 : decode cX1_holds 2 = .ok (.iload_n 1, 1) := by decide +kernel
theorem dX1_holds_3 : decode cX1_holds 3 = .ok (.ifCond .le 14, 3) := by decide +kernel
theorem dX1_holds_6 : decode cX1_holds 6 = .ok (.aload_n 0, 1) := by decide +kernel
theorem dX1_holds_7 : decode cX1_holds 7 = .ok (.getfield 18, 3) := by decide +kernel
theorem dX1_holds_10 : decode cX1_holds 10 = .ok (.iload_n 1, 1) := by decide +kernel
theorem dX1_holds_11 : decode cX1_holds 11 = .ok (.iconst 1, 1) := by decide +kernel
theorem dX1_holds_12 : decode cX1_holds 12 = .ok (.isub, 1) := by decide +kernel
theorem dX1_holds_13 : decode cX1_holds 13 = .ok (.iaload, 1) := by decide +kernel
theorem dX1_holds_14 : decode cX1_holds 14 = .ok (.goto 4, 3) := by decide +kernel
theorem dX1_holds_17 : decode cX1_holds 17 = .ok (.iconst 0, 1) := by decide +kernel
theorem dX1_holds_18 : decode cX1_holds 18 = .ok (.istore 4, 2) := by decide +kernel
theorem dX1_holds_20 : decode cX1_holds 20 = .ok (.iload 4, 2) := by decide +kernel
theorem dX1_holds_22 : decode cX1_holds 22 = .ok (.aload_n 0, 1) := by decide +kernel
theorem dX1_holds_23 : decode cX1_holds 23 = .ok (.getfield 18, 3) := by decide +kernel
theorem dX1_holds_26 : decode cX1_holds 26 = .ok (.iload_n 1, 1) := by decide +kernel
theorem dX1_holds_27 : decode cX1_holds 27 = .ok (.iaload, 1) := by decide +kernel
theorem dX1_holds_28 : decode cX1_holds 28 = .ok (.if_icmp .ge 117, 3) := by decide +kernel
theorem dX1_holds_31 : decode cX1_holds 31 = .ok (.aload_n 0, 1) := by decide +kernel
theorem dX1_holds_32 : decode cX1_holds 32 = .ok (.getfield 21, 3) := by decide +kernel
theorem dX1_holds_35 : decode cX1_holds 35 = .ok (.iload 4, 2) := by decide +kernel
theorem dX1_holds_37 : decode cX1_holds 37 = .ok (.iaload, 1) := by decide +kernel
theorem dX1_holds_38 : decode cX1_holds 38 = .ok (.tableswitch 56 1 3 #[26, 33, 45], 26) := by decide +kernel
theorem dX1_holds_64 : decode cX1_holds 64 = .ok (.iload_n 3, 1) := by decide +kernel
theorem dX1_holds_65 : decode cX1_holds 65 = .ok (.iconst 1, 1) := by decide +kernel
theorem dX1_holds_66 : decode cX1_holds 66 = .ok (.ixor, 1) := by decide +kernel
theorem dX1_holds_67 : decode cX1_holds 67 = .ok (.istore_n 3, 1) := by decide +kernel
theorem dX1_holds_68 : decode cX1_holds 68 = .ok (.goto 71, 3) := by decide +kernel
theorem dX1_holds_71 : decode cX1_holds 71 = .ok (.iload_n 3, 1) := by decide +kernel
theorem dX1_holds_72 : decode cX1_holds 72 = .ok (.iconst 1, 1) := by decide +kernel
theorem dX1_holds_73 : decode cX1_holds 73 = .ok (.ishr, 1) := by decide +kernel
theorem dX1_holds_74 : decode cX1_holds 74 = .ok (.iload_n 3, 1) := by decide +kernel
theorem dX1_holds_75 : decode cX1_holds 75 = .ok (.bipush (-2), 2) := by decide +kernel
theorem dX1_holds_77 : decode cX1_holds 77 = .ok (.ior, 1) := by decide +kernel
theorem dX1_holds_78 : decode cX1_holds 78 = .ok (.iand, 1) := by decide +kernel
theorem dX1_holds_79 : decode cX1_holds 79 = .ok (.istore_n 3, 1) := by decide +kernel
theorem dX1_holds_80 : decode cX1_holds 80 = .ok (.goto 59, 3) := by decide +kernel
theorem dX1_holds_83 : decode cX1_holds 83 = .ok (.iload_n 3, 1) := by decide +kernel
theorem dX1_holds_84 : decode cX1_holds 84 = .ok (.iconst 1, 1) := by decide +kernel
theorem dX1_holds_85 : decode cX1_holds 85 = .ok (.ishr, 1) := by decide +kernel
theorem dX1_holds_86 : decode cX1_holds 86 = .ok (.iload_n 3, 1) := by decide +kernel
theorem dX1_holds_87 : decode cX1_holds 87 = .ok (.iconst 1, 1) := by decide +kernel
theorem dX1_holds_88 : decode cX1_holds 88 = .ok (.iand, 1) := by decide +kernel
theorem dX1_holds_89 : decode cX1_holds 89 = .ok (.ior, 1) := by decide +kernel
theorem dX1_holds_90 : decode cX1_holds 90 = .ok (.istore_n 3, 1) := by decide +kernel
theorem dX1_holds_91 : decode cX1_holds 91 = .ok (.goto 48, 3) := by decide +kernel
theorem dX1_holds_94 : decode cX1_holds 94 = .ok (.aload_n 2, 1) := by decide +kernel
theorem dX1_holds_95 : decode cX1_holds 95 = .ok (.aload_n 0, 1) := by decide +kernel
theorem dX1_holds_96 : decode cX1_holds 96 = .ok (.getfield 24, 3) := by decide +kernel
theorem dX1_holds_99 : decode cX1_holds 99 = .ok (.iload 4, 2) := by decide +kernel
theorem dX1_holds_101 : decode cX1_holds 101 = .ok (.iaload, 1) := by decide +kernel
theorem dX1_holds_102 : decode cX1_holds 102 = .ok (.iaload, 1) := by decide +kernel
theorem dX1_holds_103 : decode cX1_holds 103 = .ok (.istore 5, 2) := by decide +kernel
theorem dX1_holds_105 : decode cX1_holds 105 = .ok (.iload_n 3, 1) := by decide +kernel
theorem dX1_holds_106 : decode cX1_holds 106 = .ok (.iconst 1, 1) := by decide +kernel
theorem dX1_holds_107 : decode cX1_holds 107 = .ok (.ishl, 1) := by decide +kernel
theorem dX1_holds_108 : decode cX1_holds 108 = .ok (.iload 5, 2) := by decide +kernel
theorem dX1_holds_110 : decode cX1_holds 110 = .ok (.aload_n 0, 1) := by decide +kernel
theorem dX1_holds_111 : decode cX1_holds 111 = .ok (.getfield 27, 3) := by decide +kernel
theorem dX1_holds_114 : decode cX1_holds 114 = .ok (.iload 4, 2) := by decide +kernel
theorem dX1_holds_116 : decode cX1_holds 116 = .ok (.iaload, 1) := by decide +kernel
theorem dX1_holds_117 : decode cX1_holds 117 = .ok (.if_icmp .lt 19, 3) := by decide +kernel
theorem dX1_holds_120 : decode cX1_holds 120 = .ok (.iload 5, 2) := by decide +kernel
theorem dX1_holds_122 : decode cX1_holds 122 = .ok (.aload_n 0, 1) := by decide +kernel
theorem dX1_holds_123 : decode cX1_holds 123 = .ok (.getfield 30, 3) := by decide +kernel
theorem dX1_holds_126 : decode cX1_holds 126 = .ok (.iload 4, 2) := by decide +kernel
theorem dX1_holds_128 : decode cX1_holds 128 = .ok (.iaload, 1) := by decide +kernel
theorem dX1_holds_129 : decode cX1_holds 129 = .ok (.if_icmp .gt 7, 3) := by decide +kernel
theorem dX1_holds_132 : decode cX1_holds 132 = .ok (.iconst 1, 1) := by decide +kernel
theorem dX1_holds_133 : decode cX1_holds 133 = .ok (.goto 4, 3) := by decide +kernel
theorem dX1_holds_136 : decode cX1_holds 136 = .ok (.iconst 0, 1) := by decide +kernel
theorem dX1_holds_137 : decode cX1_holds 137 = .ok (.ior, 1) := by decide +kernel
theorem dX1_holds_138 : decode cX1_holds 138 = .ok (.istore_n 3, 1) := by decide +kernel
theorem dX1_holds_139 : decode cX1_holds 139 = .ok (.iinc 4 1, 3) := by decide +kernel
theorem dX1_holds_142 : decode cX1_holds 142 = .ok (.goto (-122), 3) := by decide +kernel
theorem dX1_holds_145 : decode cX1_holds 145 = .ok (.iload_n 3, 1) := by decide +kernel
theorem dX1_holds_146 : decode cX1_holds 146 = .ok (.iconst 1, 1) := by decide +kernel
theorem dX1_holds_147 : decode cX1_holds 147 = .ok (.iand, 1) := by decide +kernel
theorem dX1_holds_148 : decode cX1_holds 148 = .ok (.iconst 1, 1) := by decide +kernel
theorem dX1_holds_149 : decode cX1_holds 149 = .ok (.if_icmp .ne 7, 3) := by decide +kernel
theorem dX1_holds_152 : decode cX1_holds 152 = .ok (.iconst 1, 1) := by decide +kernel
theorem dX1_holds_153 : decode cX1_holds 153 = .ok (.goto 4, 3) := by decide +kernel
theorem dX1_holds_156 : decode cX1_holds 156 = .ok (.iconst 0, 1) := by decide +kernel
theorem dX1_holds_157 : decode cX1_holds 157 = .ok (.ireturn, 1) := by decide +kernel
theorem dX2_init_0 : decode cX2_init 0 = .ok (.aload_n 0, 1) := by decide +kernel
theorem dX2_init_1 : decode cX2_init 1 = .ok (.invokespecial 3, 3) := by decide +kernel
theorem dX2_init_4 : decode cX2_init 4 = .ok (.aload_n 0, 1) := by decide +kernel
theorem dX2_init_5 : decode cX2_init 5 = .ok (.bipush 100, 2) := by decide +kernel
theorem dX2_init_7 : decode cX2_init 7 = .ok (.newarray .char, 2) := by decide +kernel
theorem dX2_init_9 : decode cX2_init 9 = .ok (.putfield 9, 3) := by decide +kernel
theorem dX2_init_12 : decode cX2_init 12 = .ok (.aload_n 0, 1) := by decide +kernel
theorem dX2_init_13 : decode cX2_init 13 = .ok (.iconst 0, 1) := by decide +kernel
theorem dX2_init_14 : decode cX2_init 14 = .ok (.putfield 15, 3) := by decide +kernel
theorem dX2_init_17 : decode cX2_init 17 = .ok (.aload_n 0, 1) := by decide +kernel
theorem dX2_init_18 : decode cX2_init 18 = .ok (.iconst 0, 1) := by decide +kernel
theorem dX2_init_19 : decode cX2_init 19 = .ok (.putfield 19, 3) := by decide +kernel
theorem dX2_init_22 : decode cX2_init 22 = .ok (.aload_n 0, 1) := by decide +kernel
theorem dX2_init_23 : decode cX2_init 23 = .ok (.iconst 0, 1) := by decide +kernel
theorem dX2_init_24 : decode cX2_init 24 = .ok (.putfield 22, 3) := by decide +kernel
theorem dX2_init_27 : decode cX2_init 27 = .ok (.aload_n 0, 1) := by decide +kernel
theorem dX2_init_28 : decode cX2_init 28 = .ok (.new 25, 3) := by decide +kernel
theorem dX2_init_31 : decode cX2_init 31 = .ok (.dup, 1) := by decide +kernel
theorem dX2_init_32 : decode cX2_init 32 = .ok (.invokespecial 27, 3) := by decide +kernel
theorem dX2_init_35 : decode cX2_init 35 = .ok (.putfield 28, 3) := by decide +kernel
theorem dX2_init_38 : decode cX2_init 38 = .ok (.return_, 1) := by decide +kernel
theorem dX2_append_0 : decode cX2_append 0 = .ok (.aload_n 0, 1) := by decide +kernel
theorem dX2_append_1 : decode cX2_append 1 = .ok (.getfield 15, 3) := by decide +kernel
theorem dX2_append_4 : decode cX2_append 4 = .ok (.bipush 100, 2) := by decide +kernel
theorem dX2_append_6 : decode cX2_append 6 = .ok (.if_icmp .ge 23, 3) := by decide +kernel
theorem dX2_append_9 : decode cX2_append 9 = .ok (.aload_n 0, 1) := by decide +kernel
theorem dX2_append_10 : decode cX2_append 10 = .ok (.getfield 9, 3) := by decide +kernel
theorem dX2_append_13 : decode cX2_append 13 = .ok (.aload_n 0, 1) := by decide +kernel
theorem dX2_append_14 : decode cX2_append 14 = .ok (.getfield 15, 3) := by decide +kernel
theorem dX2_append_17 : decode cX2_append 17 = .ok (.iload_n 1, 1) := by decide +kernel
theorem dX2_append_18 : decode cX2_append 18 = .ok (.castore, 1) := by decide +kernel
theorem dX2_append_19 : decode cX2_append 19 = .ok (.aload_n 0, 1) := by decide +kernel
theorem dX2_append_20 : decode cX2_append 20 = .ok (.dup, 1) := by decide +kernel
theorem dX2_append_21 : decode cX2_append 21 = .ok (.getfield 15, 3) := by decide +kernel
theorem dX2_append_24 : decode cX2_append 24 = .ok (.iconst 1, 1) := by decide +kernel
theorem dX2_append_25 : decode cX2_append 25 = .ok (.iadd, 1) := by decide +kernel
theorem dX2_append_26 : decode cX2_append 26 = .ok (.putfield 15, 3) := by decide +kernel
theorem dX2_append_29 : decode cX2_append 29 = .ok (.aload_n 0, 1) := by decide +kernel
theorem dX2_append_30 : decode cX2_append 30 = .ok (.getfield 15, 3) := by decide +kernel
theorem dX2_append_33 : decode cX2_append 33 = .ok (.ireturn, 1) := by decide +kernel
theorem dX2_faultOf_0 : decode cX2_faultOf 0 = .ok (.aload_n 0, 1) := by decide +kernel
theorem dX2_faultOf_1 : decode cX2_faultOf 1 = .ok (.iconst 0, 1) := by decide +kernel
theorem dX2_faultOf_2 : decode cX2_faultOf 2 = .ok (.putfield 19, 3) := by decide +kernel
theorem dX2_faultOf_5 : decode cX2_faultOf 5 = .ok (.aload_n 0, 1) := by decide +kernel
theorem dX2_faultOf_6 : decode cX2_faultOf 6 = .ok (.aload_n 1, 1) := by decide +kernel
theorem dX2_faultOf_7 : decode cX2_faultOf 7 = .ok (.putfield 28, 3) := by decide +kernel
theorem dX2_faultOf_10 : decode cX2_faultOf 10 = .ok (.aload_n 1, 1) := by decide +kernel
theorem dX2_faultOf_11 : decode cX2_faultOf 11 = .ok (.invokevirtual 32, 3) := by decide +kernel
theorem dX2_faultOf_14 : decode cX2_faultOf 14 = .ok (.aload_n 0, 1) := by decide +kernel
theorem dX2_faultOf_15 : decode cX2_faultOf 15 = .ok (.invokevirtual 35, 3) := by decide +kernel
theorem dX2_faultOf_18 : decode cX2_faultOf 18 = .ok (.istore_n 2, 1) := by decide +kernel
theorem dX2_faultOf_19 : decode cX2_faultOf 19 = .ok (.iconst 1, 1) := by decide +kernel
theorem dX2_faultOf_20 : decode cX2_faultOf 20 = .ok (.istore_n 3, 1) := by decide +kernel
theorem dX2_faultOf_21 : decode cX2_faultOf 21 = .ok (.iload_n 3, 1) := by decide +kernel
theorem dX2_faultOf_22 : decode cX2_faultOf 22 = .ok (.bipush 10, 2) := by decide +kernel
theorem dX2_faultOf_24 : decode cX2_faultOf 24 = .ok (.if_icmp .ge 37, 3) := by decide +kernel
theorem dX2_faultOf_27 : decode cX2_faultOf 27 = .ok (.iload_n 2, 1) := by decide +kernel
theorem dX2_faultOf_28 : decode cX2_faultOf 28 = .ok (.ifCond .eq 33, 3) := by decide +kernel
theorem dX2_faultOf_31 : decode cX2_faultOf 31 = .ok (.aload_n 0, 1) := by decide +kernel
theorem dX2_faultOf_32 : decode cX2_faultOf 32 = .ok (.bipush 59, 2) := by decide +kernel
theorem dX2_faultOf_34 : decode cX2_faultOf 34 = .ok (.invokevirtual 39, 3) := by decide +kernel
theorem dX2_faultOf_37 : decode cX2_faultOf 37 = .ok (.ifCond .eq 24, 3) := by decide +kernel
theorem dX2_faultOf_40 : decode cX2_faultOf 40 = .ok (.aload_n 0, 1) := by decide +kernel
theorem dX2_faultOf_41 : decode cX2_faultOf 41 = .ok (.dup, 1) := by decide +kernel
theorem dX2_faultOf_42 : decode cX2_faultOf 42 = .ok (.getfield 19, 3) := by decide +kernel
theorem dX2_faultOf_45 : decode cX2_faultOf 45 = .ok (.iconst 1, 1) := by decide +kernel
theorem dX2_faultOf_46 : decode cX2_faultOf 46 = .ok (.iadd, 1) := by decide +kernel
theorem dX2_faultOf_47 : decode cX2_faultOf 47 = .ok (.putfield 19, 3) := by decide +kernel
theorem dX2_faultOf_50 : decode cX2_faultOf 50 = .ok (.aload_n 0, 1) := by decide +kernel
theorem dX2_faultOf_51 : decode cX2_faultOf 51 = .ok (.invokevirtual 35, 3) := by decide +kernel
theorem dX2_faultOf_54 : decode cX2_faultOf 54 = .ok (.istore_n 2, 1) := by decide +kernel
theorem dX2_faultOf_55 : decode cX2_faultOf 55 = .ok (.iinc 3 1, 3) := by decide +kernel
theorem dX2_faultOf_58 : decode cX2_faultOf 58 = .ok (.goto (-37), 3) := by decide +kernel
theorem dX2_faultOf_61 : decode cX2_faultOf 61 = .ok (.iload_n 2, 1) := by decide +kernel
theorem dX2_faultOf_62 : decode cX2_faultOf 62 = .ok (.ifCond .eq 18, 3) := by decide +kernel
theorem dX2_faultOf_65 : decode cX2_faultOf 65 = .ok (.aload_n 0, 1) := by decide +kernel
theorem dX2_faultOf_66 : decode cX2_faultOf 66 = .ok (.getfield 19, 3) := by decide +kernel
theorem dX2_faultOf_69 : decode cX2_faultOf 69 = .ok (.aload_n 0, 1) := by decide +kernel
theorem dX2_faultOf_70 : decode cX2_faultOf 70 = .ok (.getfield 15, 3) := by decide +kernel
theorem dX2_faultOf_73 : decode cX2_faultOf 73 = .ok (.if_icmp .ne 7, 3) := by decide +kernel
theorem dX2_faultOf_76 : decode cX2_faultOf 76 = .ok (.iconst (-1), 1) := by decide +kernel
theorem dX2_faultOf_77 : decode cX2_faultOf 77 = .ok (.goto 7, 3) := by decide +kernel
theorem dX2_faultOf_80 : decode cX2_faultOf 80 = .ok (.aload_n 0, 1) := by decide +kernel
theorem dX2_faultOf_81 : decode cX2_faultOf 81 = .ok (.getfield 19, 3) := by decide +kernel
theorem dX2_faultOf_84 : decode cX2_faultOf 84 = .ok (.ireturn, 1) := by decide +kernel
theorem dX2_readClause_0 : decode cX2_readClause 0 = .ok (.aload_n 0, 1) := by decide +kernel
theorem dX2_readClause_1 : decode cX2_readClause 1 = .ok (.invokevirtual 43, 3) := by decide +kernel
theorem dX2_readClause_4 : decode cX2_readClause 4 = .ok (.istore_n 1, 1) := by decide +kernel
theorem dX2_readClause_5 : decode cX2_readClause 5 = .ok (.iload_n 1, 1) := by decide +kernel
theorem dX2_readClause_6 : decode cX2_readClause 6 = .ok (.iconst (-1), 1) := by decide +kernel
theorem dX2_readClause_7 : decode cX2_readClause 7 = .ok (.if_icmp .eq 19, 3) := by decide +kernel
theorem dX2_readClause_10 : decode cX2_readClause 10 = .ok (.aload_n 0, 1) := by decide +kernel
theorem dX2_readClause_11 : decode cX2_readClause 11 = .ok (.bipush 32, 2) := by decide +kernel
theorem dX2_readClause_13 : decode cX2_readClause 13 = .ok (.invokevirtual 47, 3) := by decide +kernel
theorem dX2_readClause_16 : decode cX2_readClause 16 = .ok (.ifCond .eq 10, 3) := by decide +kernel
theorem dX2_readClause_19 : decode cX2_readClause 19 = .ok (.aload_n 0, 1) := by decide +kernel
theorem dX2_readClause_20 : decode cX2_readClause 20 = .ok (.invokevirtual 50, 3) := by decide +kernel
theorem dX2_readClause_23 : decode cX2_readClause 23 = .ok (.ifCond .ne 5, 3) := by decide +kernel
theorem dX2_readClause_26 : decode cX2_readClause 26 = .ok (.iconst 0, 1) := by decide +kernel
theorem dX2_readClause_27 : decode cX2_readClause 27 = .ok (.ireturn, 1) := by decide +kernel
theorem dX2_readClause_28 : decode cX2_readClause 28 = .ok (.aload_n 0, 1) := by decide +kernel
theorem dX2_readClause_29 : decode cX2_readClause 29 = .ok (.getfield 22, 3) := by decide +kernel
theorem dX2_readClause_32 : decode cX2_readClause 32 = .ok (.istore_n 2, 1) := by decide +kernel
theorem dX2_readClause_33 : decode cX2_readClause 33 = .ok (.iload_n 1, 1) := by decide +kernel
theorem dX2_readClause_34 : decode cX2_readClause 34 = .ok (.ifCond .eq 8, 3) := by decide +kernel
theorem dX2_readClause_37 : decode cX2_readClause 37 = .ok (.iload_n 1, 1) := by decide +kernel
theorem dX2_readClause_38 : decode cX2_readClause 38 = .ok (.iconst 1, 1) := by decide +kernel
theorem dX2_readClause_39 : decode cX2_readClause 39 = .ok (.if_icmp .ne 7, 3) := by decide +kernel
theorem dX2_readClause_42 : decode cX2_readClause 42 = .ok (.iconst 1, 1) := by decide +kernel
theorem dX2_readClause_43 : decode cX2_readClause 43 = .ok (.goto 4, 3) := by decide +kernel
theorem dX2_readClause_46 : decode cX2_readClause 46 = .ok (.iconst 0, 1) := by decide +kernel
theorem dX2_readClause_47 : decode cX2_readClause 47 = .ok (.istore_n 3, 1) := by decide +kernel
theorem dX2_readClause_48 : decode cX2_readClause 48 = .ok (.iload_n 3, 1) := by decide +kernel
theorem dX2_readClause_49 : decode cX2_readClause 49 = .ok (.ifCond .eq 22, 3) := by decide +kernel
theorem dX2_readClause_52 : decode cX2_readClause 52 = .ok (.aload_n 0, 1) := by decide +kernel
theorem dX2_readClause_53 : decode cX2_readClause 53 = .ok (.bipush 32, 2) := by decide +kernel
theorem dX2_readClause_55 : decode cX2_readClause 55 = .ok (.invokevirtual 47, 3) := by decide +kernel
theorem dX2_readClause_58 : decode cX2_readClause 58 = .ok (.ifCond .eq 11, 3) := by decide +kernel
theorem dX2_readClause_61 : decode cX2_readClause 61 = .ok (.aload_n 0, 1) := by decide +kernel
theorem dX2_readClause_62 : decode cX2_readClause 62 = .ok (.iconst 0, 1) := by decide +kernel
theorem dX2_readClause_63 : decode cX2_readClause 63 = .ok (.invokevirtual 53, 3) := by decide +kernel
theorem dX2_readClause_66 : decode cX2_readClause 66 = .ok (.ifCond .ne 5, 3) := by decide +kernel
theorem dX2_readClause_69 : decode cX2_readClause 69 = .ok (.iconst 0, 1) := by decide +kernel
theorem dX2_readClause_70 : decode cX2_readClause 70 = .ok (.ireturn, 1) := by decide +kernel
theorem dX2_readClause_71 : decode cX2_readClause 71 = .ok (.aload_n 0, 1) := by decide +kernel
theorem dX2_readClause_72 : decode cX2_readClause 72 = .ok (.getfield 28, 3) := by decide +kernel
theorem dX2_readClause_75 : decode cX2_readClause 75 = .ok (.iload_n 1, 1) := by decide +kernel
theorem dX2_readClause_76 : decode cX2_readClause 76 = .ok (.iload_n 2, 1) := by decide +kernel
theorem dX2_readClause_77 : decode cX2_readClause 77 = .ok (.invokevirtual 57, 3) := by decide +kernel
theorem dX2_readClause_80 : decode cX2_readClause 80 = .ok (.iconst 1, 1) := by decide +kernel
theorem dX2_readClause_81 : decode cX2_readClause 81 = .ok (.ireturn, 1) := by decide +kernel
theorem dX2_readWord_0 : decode cX2_readWord 0 = .ok (.iconst 0, 1) := by decide +kernel
theorem dX2_readWord_1 : decode cX2_readWord 1 = .ok (.istore_n 1, 1) := by decide +kernel
theorem dX2_readWord_2 : decode cX2_readWord 2 = .ok (.iconst 0, 1) := by decide +kernel
theorem dX2_readWord_3 : decode cX2_readWord 3 = .ok (.istore_n 2, 1) := by decide +kernel
theorem dX2_readWord_4 : decode cX2_readWord 4 = .ok (.iload_n 2, 1) := by decide +kernel
theorem dX2_readWord_5 : decode cX2_readWord 5 = .ok (.iconst 5, 1) := by decide +kernel
theorem dX2_readWord_6 : decode cX2_readWord 6 = .ok (.if_icmp .ge 50, 3) := by decide +kernel
theorem dX2_readWord_9 : decode cX2_readWord 9 = .ok (.iload_n 2, 1) := by decide +kernel
theorem dX2_readWord_10 : decode cX2_readWord 10 = .ok (.invokestatic 61, 3) := by decide +kernel
theorem dX2_readWord_13 : decode cX2_readWord 13 = .ok (.astore_n 3, 1) := by decide +kernel
theorem dX2_readWord_14 : decode cX2_readWord 14 = .ok (.aload_n 0, 1) := by decide +kernel
theorem dX2_readWord_15 : decode cX2_readWord 15 = .ok (.aload_n 3, 1) := by decide +kernel
theorem dX2_readWord_16 : decode cX2_readWord 16 = .ok (.invokevirtual 65, 3) := by decide +kernel
theorem dX2_readWord_19 : decode cX2_readWord 19 = .ok (.istore 4, 2) := by decide +kernel
theorem dX2_readWord_21 : decode cX2_readWord 21 = .ok (.iload 4, 2) := by decide +kernel
theorem dX2_readWord_23 : decode cX2_readWord 23 = .ok (.aload_n 3, 1) := by decide +kernel
theorem dX2_readWord_24 : decode cX2_readWord 24 = .ok (.invokevirtual 69, 3) := by decide +kernel
theorem dX2_readWord_27 : decode cX2_readWord 27 = .ok (.if_icmp .ne 16, 3) := by decide +kernel
theorem dX2_readWord_30 : decode cX2_readWord 30 = .ok (.aload_n 0, 1) := by decide +kernel
theorem dX2_readWord_31 : decode cX2_readWord 31 = .ok (.dup, 1) := by decide +kernel
theorem dX2_readWord_32 : decode cX2_readWord 32 = .ok (.getfield 19, 3) := by decide +kernel
theorem dX2_readWord_35 : decode cX2_readWord 35 = .ok (.iload 4, 2) := by decide +kernel
theorem dX2_readWord_37 : decode cX2_readWord 37 = .ok (.iadd, 1) := by decide +kernel
theorem dX2_readWord_38 : decode cX2_readWord 38 = .ok (.putfield 19, 3) := by decide +kernel
theorem dX2_readWord_41 : decode cX2_readWord 41 = .ok (.iload_n 2, 1) := by decide +kernel
theorem dX2_readWord_42 : decode cX2_readWord 42 = .ok (.ireturn, 1) := by decide +kernel
theorem dX2_readWord_43 : decode cX2_readWord 43 = .ok (.iload_n 1, 1) := by decide +kernel
theorem dX2_readWord_44 : decode cX2_readWord 44 = .ok (.iload 4, 2) := by decide +kernel
theorem dX2_readWord_46 : decode cX2_readWord 46 = .ok (.invokestatic 73, 3) := by decide +kernel
theorem dX2_readWord_49 : decode cX2_readWord 49 = .ok (.istore_n 1, 1) := by decide +kernel
theorem dX2_readWord_50 : decode cX2_readWord 50 = .ok (.iinc 2 1, 3) := by decide +kernel
theorem dX2_readWord_53 : decode cX2_readWord 53 = .ok (.goto (-49), 3) := by decide +kernel
theorem dX2_readWord_56 : decode cX2_readWord 56 = .ok (.aload_n 0, 1) := by decide +kernel
theorem dX2_readWord_57 : decode cX2_readWord 57 = .ok (.dup, 1) := by decide +kernel
theorem dX2_readWord_58 : decode cX2_readWord 58 = .ok (.getfield 19, 3) := by decide +kernel
theorem dX2_readWord_61 : decode cX2_readWord 61 = .ok (.iload_n 1, 1) := by decide +kernel
theorem dX2_readWord_62 : decode cX2_readWord 62 = .ok (.iadd, 1) := by decide +kernel
theorem dX2_readWord_63 : decode cX2_readWord 63 = .ok (.putfield 19, 3) := by decide +kernel
theorem dX2_readWord_66 : decode cX2_readWord 66 = .ok (.iconst (-1), 1) := by decide +kernel
theorem dX2_readWord_67 : decode cX2_readWord 67 = .ok (.ireturn, 1) := by decide +kernel
theorem dX2_wordOf_0 : decode cX2_wordOf 0 = .ok (.iload_n 0, 1) := by decide +kernel
theorem dX2_wordOf_1 : decode cX2_wordOf 1 = .ok (.tableswitch 43 0 3 #[31, 34, 37, 40], 31) := by decide +kernel
theorem dX2_wordOf_32 : decode cX2_wordOf 32 = .ok (.ldc 79, 2) := by decide +kernel
theorem dX2_wordOf_34 : decode cX2_wordOf 34 = .ok (.areturn, 1) := by decide +kernel
theorem dX2_wordOf_35 : decode cX2_wordOf 35 = .ok (.ldc 81, 2) := by decide +kernel
theorem dX2_wordOf_37 : decode cX2_wordOf 37 = .ok (.areturn, 1) := by decide +kernel
theorem dX2_wordOf_38 : decode cX2_wordOf 38 = .ok (.ldc 83, 2) := by decide +kernel
theorem dX2_wordOf_40 : decode cX2_wordOf 40 = .ok (.areturn, 1) := by decide +kernel
theorem dX2_wordOf_41 : decode cX2_wordOf 41 = .ok (.ldc 85, 2) := by decide +kernel
theorem dX2_wordOf_43 : decode cX2_wordOf 43 = .ok (.areturn, 1) := by decide +kernel
theorem dX2_wordOf_44 : decode cX2_wordOf 44 = .ok (.ldc 87, 2) := by decide +kernel
theorem dX2_wordOf_46 : decode cX2_wordOf 46 = .ok (.areturn, 1) := by decide +kernel
theorem dX2_alike_0 : decode cX2_alike 0 = .ok (.iconst 0, 1) := by decide +kernel
theorem dX2_alike_1 : decode cX2_alike 1 = .ok (.istore_n 2, 1) := by decide +kernel
theorem dX2_alike_2 : decode cX2_alike 2 = .ok (.iconst 0, 1) := by decide +kernel
theorem dX2_alike_3 : decode cX2_alike 3 = .ok (.istore_n 3, 1) := by decide +kernel
theorem dX2_alike_4 : decode cX2_alike 4 = .ok (.iload_n 3, 1) := by decide +kernel
theorem dX2_alike_5 : decode cX2_alike 5 = .ok (.aload_n 1, 1) := by decide +kernel
theorem dX2_alike_6 : decode cX2_alike 6 = .ok (.invokevirtual 69, 3) := by decide +kernel
theorem dX2_alike_9 : decode cX2_alike 9 = .ok (.if_icmp .ge 47, 3) := by decide +kernel
theorem dX2_alike_12 : decode cX2_alike 12 = .ok (.aload_n 0, 1) := by decide +kernel
theorem dX2_alike_13 : decode cX2_alike 13 = .ok (.getfield 19, 3) := by decide +kernel
theorem dX2_alike_16 : decode cX2_alike 16 = .ok (.iload_n 3, 1) := by decide +kernel
theorem dX2_alike_17 : decode cX2_alike 17 = .ok (.iadd, 1) := by decide +kernel
theorem dX2_alike_18 : decode cX2_alike 18 = .ok (.aload_n 0, 1) := by decide +kernel
theorem dX2_alike_19 : decode cX2_alike 19 = .ok (.getfield 15, 3) := by decide +kernel
theorem dX2_alike_22 : decode cX2_alike 22 = .ok (.if_icmp .ge 34, 3) := by decide +kernel
theorem dX2_alike_25 : decode cX2_alike 25 = .ok (.aload_n 0, 1) := by decide +kernel
theorem dX2_alike_26 : decode cX2_alike 26 = .ok (.getfield 9, 3) := by decide +kernel
theorem dX2_alike_29 : decode cX2_alike 29 = .ok (.aload_n 0, 1) := by decide +kernel
theorem dX2_alike_30 : decode cX2_alike 30 = .ok (.getfield 19, 3) := by decide +kernel
theorem dX2_alike_33 : decode cX2_alike 33 = .ok (.iload_n 3, 1) := by decide +kernel
theorem dX2_alike_34 : decode cX2_alike 34 = .ok (.iadd, 1) := by decide +kernel
theorem dX2_alike_35 : decode cX2_alike 35 = .ok (.caload, 1) := by decide +kernel
theorem dX2_alike_36 : decode cX2_alike 36 = .ok (.aload_n 1, 1) := by decide +kernel
theorem dX2_alike_37 : decode cX2_alike 37 = .ok (.iload_n 3, 1) := by decide +kernel
theorem dX2_alike_38 : decode cX2_alike 38 = .ok (.invokevirtual 89, 3) := by decide +kernel
theorem dX2_alike_41 : decode cX2_alike 41 = .ok (.if_icmp .eq 6, 3) := by decide +kernel
theorem dX2_alike_44 : decode cX2_alike 44 = .ok (.goto 12, 3) := by decide +kernel
theorem dX2_alike_47 : decode cX2_alike 47 = .ok (.iinc 2 1, 3) := by decide +kernel
theorem dX2_alike_50 : decode cX2_alike 50 = .ok (.iinc 3 1, 3) := by decide +kernel
theorem dX2_alike_53 : decode cX2_alike 53 = .ok (.goto (-49), 3) := by decide +kernel
theorem dX2_alike_56 : decode cX2_alike 56 = .ok (.iload_n 2, 1) := by decide +kernel
theorem dX2_alike_57 : decode cX2_alike 57 = .ok (.ireturn, 1) := by decide +kernel
theorem dX2_readNumber_0 : decode cX2_readNumber 0 = .ok (.iconst 0, 1) := by decide +kernel
theorem dX2_readNumber_1 : decode cX2_readNumber 1 = .ok (.istore_n 1, 1) := by decide +kernel
theorem dX2_readNumber_2 : decode cX2_readNumber 2 = .ok (.aload_n 0, 1) := by decide +kernel
theorem dX2_readNumber_3 : decode cX2_readNumber 3 = .ok (.iconst 0, 1) := by decide +kernel
theorem dX2_readNumber_4 : decode cX2_readNumber 4 = .ok (.putfield 22, 3) := by decide +kernel
theorem dX2_readNumber_7 : decode cX2_readNumber 7 = .ok (.iload_n 1, 1) := by decide +kernel
theorem dX2_readNumber_8 : decode cX2_readNumber 8 = .ok (.iconst 2, 1) := by decide +kernel
theorem dX2_readNumber_9 : decode cX2_readNumber 9 = .ok (.if_icmp .ge 82, 3) := by decide +kernel
theorem dX2_readNumber_12 : decode cX2_readNumber 12 = .ok (.aload_n 0, 1) := by decide +kernel
theorem dX2_readNumber_13 : decode cX2_readNumber 13 = .ok (.getfield 19, 3) := by decide +kernel
theorem dX2_readNumber_16 : decode cX2_readNumber 16 = .ok (.aload_n 0, 1) := by decide +kernel
theorem dX2_readNumber_17 : decode cX2_readNumber 17 = .ok (.getfield 15, 3) := by decide +kernel
theorem dX2_readNumber_20 : decode cX2_readNumber 20 = .ok (.if_icmp .ge 71, 3) := by decide +kernel
theorem dX2_readNumber_23 : decode cX2_readNumber 23 = .ok (.aload_n 0, 1) := by decide +kernel
theorem dX2_readNumber_24 : decode cX2_readNumber 24 = .ok (.getfield 9, 3) := by decide +kernel
theorem dX2_readNumber_27 : decode cX2_readNumber 27 = .ok (.aload_n 0, 1) := by decide +kernel
theorem dX2_readNumber_28 : decode cX2_readNumber 28 = .ok (.getfield 19, 3) := by decide +kernel
theorem dX2_readNumber_31 : decode cX2_readNumber 31 = .ok (.caload, 1) := by decide +kernel
theorem dX2_readNumber_32 : decode cX2_readNumber 32 = .ok (.bipush 48, 2) := by decide +kernel
theorem dX2_readNumber_34 : decode cX2_readNumber 34 = .ok (.if_icmp .lt 57, 3) := by decide +kernel
theorem dX2_readNumber_37 : decode cX2_readNumber 37 = .ok (.aload_n 0, 1) := by decide +kernel
theorem dX2_readNumber_38 : decode cX2_readNumber 38 = .ok (.getfield 9, 3) := by decide +kernel
theorem dX2_readNumber_41 : decode cX2_readNumber 41 = .ok (.aload_n 0, 1) := by decide +kernel
theorem dX2_readNumber_42 : decode cX2_readNumber 42 = .ok (.getfield 19, 3) := by decide +kernel
theorem dX2_readNumber_45 : decode cX2_readNumber 45 = .ok (.caload, 1) := by decide +kernel
theorem dX2_readNumber_46 : decode cX2_readNumber 46 = .ok (.bipush 57, 2) := by decide +kernel
theorem dX2_readNumber_48 : decode cX2_readNumber 48 = .ok (.if_icmp .gt 43, 3) := by decide +kernel
theorem dX2_readNumber_51 : decode cX2_readNumber 51 = .ok (.aload_n 0, 1) := by decide +kernel
theorem dX2_readNumber_52 : decode cX2_readNumber 52 = .ok (.aload_n 0, 1) := by decide +kernel
theorem dX2_readNumber_53 : decode cX2_readNumber 53 = .ok (.getfield 22, 3) := by decide +kernel
theorem dX2_readNumber_56 : decode cX2_readNumber 56 = .ok (.bipush 10, 2) := by decide +kernel
theorem dX2_readNumber_58 : decode cX2_readNumber 58 = .ok (.imul, 1) := by decide +kernel
theorem dX2_readNumber_59 : decode cX2_readNumber 59 = .ok (.aload_n 0, 1) := by decide +kernel
theorem dX2_readNumber_60 : decode cX2_readNumber 60 = .ok (.getfield 9, 3) := by decide +kernel
theorem dX2_readNumber_63 : decode cX2_readNumber 63 = .ok (.aload_n 0, 1) := by decide +kernel
theorem dX2_readNumber_64 : decode cX2_readNumber 64 = .ok (.getfield 19, 3) := by decide +kernel
theorem dX2_readNumber_67 : decode cX2_readNumber 67 = .ok (.caload, 1) := by decide +kernel
theorem dX2_readNumber_68 : decode cX2_readNumber 68 = .ok (.iadd, 1) := by decide +kernel
theorem dX2_readNumber_69 : decode cX2_readNumber 69 = .ok (.bipush 48, 2) := by decide +kernel
theorem dX2_readNumber_71 : decode cX2_readNumber 71 = .ok (.isub, 1) := by decide +kernel
theorem dX2_readNumber_72 : decode cX2_readNumber 72 = .ok (.putfield 22, 3) := by decide +kernel
theorem dX2_readNumber_75 : decode cX2_readNumber 75 = .ok (.aload_n 0, 1) := by decide +kernel
theorem dX2_readNumber_76 : decode cX2_readNumber 76 = .ok (.dup, 1) := by decide +kernel
theorem dX2_readNumber_77 : decode cX2_readNumber 77 = .ok (.getfield 19, 3) := by decide +kernel
theorem dX2_readNumber_80 : decode cX2_readNumber 80 = .ok (.iconst 1, 1) := by decide +kernel
theorem dX2_readNumber_81 : decode cX2_readNumber 81 = .ok (.iadd, 1) := by decide +kernel
theorem dX2_readNumber_82 : decode cX2_readNumber 82 = .ok (.putfield 19, 3) := by decide +kernel
theorem dX2_readNumber_85 : decode cX2_readNumber 85 = .ok (.iinc 1 1, 3) := by decide +kernel
theorem dX2_readNumber_88 : decode cX2_readNumber 88 = .ok (.goto (-81), 3) := by decide +kernel
theorem dX2_readNumber_91 : decode cX2_readNumber 91 = .ok (.iload_n 1, 1) := by decide +kernel
theorem dX2_readNumber_92 : decode cX2_readNumber 92 = .ok (.ifCond .le 7, 3) := by decide +kernel
theorem dX2_readNumber_95 : decode cX2_readNumber 95 = .ok (.iconst 1, 1) := by decide +kernel
theorem dX2_readNumber_96 : decode cX2_readNumber 96 = .ok (.goto 4, 3) := by decide +kernel
theorem dX2_readNumber_99 : decode cX2_readNumber 99 = .ok (.iconst 0, 1) := by decide +kernel
theorem dX2_readNumber_100 : decode cX2_readNumber 100 = .ok (.ireturn, 1) := by decide +kernel
theorem dX2_readEither_0 : decode cX2_readEither 0 = .ok (.aload_n 0, 1) := by decide +kernel
theorem dX2_readEither_1 : decode cX2_readEither 1 = .ok (.iload_n 1, 1) := by decide +kernel
theorem dX2_readEither_2 : decode cX2_readEither 2 = .ok (.invokevirtual 93, 3) := by decide +kernel
theorem dX2_readEither_5 : decode cX2_readEither 5 = .ok (.istore_n 2, 1) := by decide +kernel
theorem dX2_readEither_6 : decode cX2_readEither 6 = .ok (.iconst 0, 1) := by decide +kernel
theorem dX2_readEither_7 : decode cX2_readEither 7 = .ok (.istore_n 3, 1) := by decide +kernel
theorem dX2_readEither_8 : decode cX2_readEither 8 = .ok (.iload_n 3, 1) := by decide +kernel
theorem dX2_readEither_9 : decode cX2_readEither 9 = .ok (.bipush 100, 2) := by decide +kernel
theorem dX2_readEither_11 : decode cX2_readEither 11 = .ok (.if_icmp .ge 46, 3) := by decide +kernel
theorem dX2_readEither_14 : decode cX2_readEither 14 = .ok (.iload_n 2, 1) := by decide +kernel
theorem dX2_readEither_15 : decode cX2_readEither 15 = .ok (.ifCond .eq 42, 3) := by decide +kernel
theorem dX2_readEither_18 : decode cX2_readEither 18 = .ok (.aload_n 0, 1) := by decide +kernel
theorem dX2_readEither_19 : decode cX2_readEither 19 = .ok (.bipush 124, 2) := by decide +kernel
theorem dX2_readEither_21 : decode cX2_readEither 21 = .ok (.invokevirtual 39, 3) := by decide +kernel
theorem dX2_readEither_24 : decode cX2_readEither 24 = .ok (.ifCond .eq 33, 3) := by decide +kernel
theorem dX2_readEither_27 : decode cX2_readEither 27 = .ok (.aload_n 0, 1) := by decide +kernel
theorem dX2_readEither_28 : decode cX2_readEither 28 = .ok (.dup, 1) := by decide +kernel
theorem dX2_readEither_29 : decode cX2_readEither 29 = .ok (.getfield 19, 3) := by decide +kernel
theorem dX2_readEither_32 : decode cX2_readEither 32 = .ok (.iconst 1, 1) := by decide +kernel
theorem dX2_readEither_33 : decode cX2_readEither 33 = .ok (.iadd, 1) := by decide +kernel
theorem dX2_readEither_34 : decode cX2_readEither 34 = .ok (.putfield 19, 3) := by decide +kernel
theorem dX2_readEither_37 : decode cX2_readEither 37 = .ok (.aload_n 0, 1) := by decide +kernel
theorem dX2_readEither_38 : decode cX2_readEither 38 = .ok (.iload_n 1, 1) := by decide +kernel
theorem dX2_readEither_39 : decode cX2_readEither 39 = .ok (.invokevirtual 93, 3) := by decide +kernel
theorem dX2_readEither_42 : decode cX2_readEither 42 = .ok (.istore_n 2, 1) := by decide +kernel
theorem dX2_readEither_43 : decode cX2_readEither 43 = .ok (.aload_n 0, 1) := by decide +kernel
theorem dX2_readEither_44 : decode cX2_readEither 44 = .ok (.getfield 28, 3) := by decide +kernel
theorem dX2_readEither_47 : decode cX2_readEither 47 = .ok (.iconst 3, 1) := by decide +kernel
theorem dX2_readEither_48 : decode cX2_readEither 48 = .ok (.invokevirtual 96, 3) := by decide +kernel
theorem dX2_readEither_51 : decode cX2_readEither 51 = .ok (.iinc 3 1, 3) := by decide +kernel
theorem dX2_readEither_54 : decode cX2_readEither 54 = .ok (.goto (-46), 3) := by decide +kernel
theorem dX2_readEither_57 : decode cX2_readEither 57 = .ok (.iload_n 2, 1) := by decide +kernel
theorem dX2_readEither_58 : decode cX2_readEither 58 = .ok (.ireturn, 1) := by decide +kernel
theorem dX2_readBoth_0 : decode cX2_readBoth 0 = .ok (.aload_n 0, 1) := by decide +kernel
theorem dX2_readBoth_1 : decode cX2_readBoth 1 = .ok (.iload_n 1, 1) := by decide +kernel
theorem dX2_readBoth_2 : decode cX2_readBoth 2 = .ok (.invokevirtual 100, 3) := by decide +kernel
theorem dX2_readBoth_5 : decode cX2_readBoth 5 = .ok (.istore_n 2, 1) := by decide +kernel
theorem dX2_readBoth_6 : decode cX2_readBoth 6 = .ok (.iconst 0, 1) := by decide +kernel
theorem dX2_readBoth_7 : decode cX2_readBoth 7 = .ok (.istore_n 3, 1) := by decide +kernel
theorem dX2_readBoth_8 : decode cX2_readBoth 8 = .ok (.iload_n 3, 1) := by decide +kernel
theorem dX2_readBoth_9 : decode cX2_readBoth 9 = .ok (.bipush 100, 2) := by decide +kernel
theorem dX2_readBoth_11 : decode cX2_readBoth 11 = .ok (.if_icmp .ge 46, 3) := by decide +kernel
theorem dX2_readBoth_14 : decode cX2_readBoth 14 = .ok (.iload_n 2, 1) := by decide +kernel
theorem dX2_readBoth_15 : decode cX2_readBoth 15 = .ok (.ifCond .eq 42, 3) := by decide +kernel
theorem dX2_readBoth_18 : decode cX2_readBoth 18 = .ok (.aload_n 0, 1) := by decide +kernel
theorem dX2_readBoth_19 : decode cX2_readBoth 19 = .ok (.bipush 38, 2) := by decide +kernel
theorem dX2_readBoth_21 : decode cX2_readBoth 21 = .ok (.invokevirtual 39, 3) := by decide +kernel
theorem dX2_readBoth_24 : decode cX2_readBoth 24 = .ok (.ifCond .eq 33, 3) := by decide +kernel
theorem dX2_readBoth_27 : decode cX2_readBoth 27 = .ok (.aload_n 0, 1) := by decide +kernel
theorem dX2_readBoth_28 : decode cX2_readBoth 28 = .ok (.dup, 1) := by decide +kernel
theorem dX2_readBoth_29 : decode cX2_readBoth 29 = .ok (.getfield 19, 3) := by decide +kernel
theorem dX2_readBoth_32 : decode cX2_readBoth 32 = .ok (.iconst 1, 1) := by decide +kernel
theorem dX2_readBoth_33 : decode cX2_readBoth 33 = .ok (.iadd, 1) := by decide +kernel
theorem dX2_readBoth_34 : decode cX2_readBoth 34 = .ok (.putfield 19, 3) := by decide +kernel
theorem dX2_readBoth_37 : decode cX2_readBoth 37 = .ok (.aload_n 0, 1) := by decide +kernel
theorem dX2_readBoth_38 : decode cX2_readBoth 38 = .ok (.iload_n 1, 1) := by decide +kernel
theorem dX2_readBoth_39 : decode cX2_readBoth 39 = .ok (.invokevirtual 100, 3) := by decide +kernel
theorem dX2_readBoth_42 : decode cX2_readBoth 42 = .ok (.istore_n 2, 1) := by decide +kernel
theorem dX2_readBoth_43 : decode cX2_readBoth 43 = .ok (.aload_n 0, 1) := by decide +kernel
theorem dX2_readBoth_44 : decode cX2_readBoth 44 = .ok (.getfield 28, 3) := by decide +kernel
theorem dX2_readBoth_47 : decode cX2_readBoth 47 = .ok (.iconst 2, 1) := by decide +kernel
theorem dX2_readBoth_48 : decode cX2_readBoth 48 = .ok (.invokevirtual 96, 3) := by decide +kernel
theorem dX2_readBoth_51 : decode cX2_readBoth 51 = .ok (.iinc 3 1, 3) := by decide +kernel
theorem dX2_readBoth_54 : decode cX2_readBoth 54 = .ok (.goto (-46), 3) := by decide +kernel
theorem dX2_readBoth_57 : decode cX2_readBoth 57 = .ok (.iload_n 2, 1) := by decide +kernel
theorem dX2_readBoth_58 : decode cX2_readBoth 58 = .ok (.ireturn, 1) := by decide +kernel
theorem dX2_readOne_0 : decode cX2_readOne 0 = .ok (.aload_n 0, 1) := by decide +kernel
theorem dX2_readOne_1 : decode cX2_readOne 1 = .ok (.bipush 33, 2) := by decide +kernel
theorem dX2_readOne_3 : decode cX2_readOne 3 = .ok (.invokevirtual 39, 3) := by decide +kernel
theorem dX2_readOne_6 : decode cX2_readOne 6 = .ok (.istore_n 2, 1) := by decide +kernel
theorem dX2_readOne_7 : decode cX2_readOne 7 = .ok (.iload_n 2, 1) := by decide +kernel
theorem dX2_readOne_8 : decode cX2_readOne 8 = .ok (.ifCond .ne 17, 3) := by decide +kernel
theorem dX2_readOne_11 : decode cX2_readOne 11 = .ok (.aload_n 0, 1) := by decide +kernel
theorem dX2_readOne_12 : decode cX2_readOne 12 = .ok (.bipush 40, 2) := by decide +kernel
theorem dX2_readOne_14 : decode cX2_readOne 14 = .ok (.invokevirtual 39, 3) := by decide +kernel
theorem dX2_readOne_17 : decode cX2_readOne 17 = .ok (.ifCond .ne 8, 3) := by decide +kernel
theorem dX2_readOne_20 : decode cX2_readOne 20 = .ok (.aload_n 0, 1) := by decide +kernel
theorem dX2_readOne_21 : decode cX2_readOne 21 = .ok (.invokevirtual 103, 3) := by decide +kernel
theorem dX2_readOne_24 : decode cX2_readOne 24 = .ok (.ireturn, 1) := by decide +kernel
theorem dX2_readOne_25 : decode cX2_readOne 25 = .ok (.iload_n 1, 1) := by decide +kernel
theorem dX2_readOne_26 : decode cX2_readOne 26 = .ok (.iconst 4, 1) := by decide +kernel
theorem dX2_readOne_27 : decode cX2_readOne 27 = .ok (.if_icmp .lt 5, 3) := by decide +kernel
theorem dX2_readOne_30 : decode cX2_readOne 30 = .ok (.iconst 0, 1) := by decide +kernel
theorem dX2_readOne_31 : decode cX2_readOne 31 = .ok (.ireturn, 1) := by decide +kernel
theorem dX2_readOne_32 : decode cX2_readOne 32 = .ok (.aload_n 0, 1) := by decide +kernel
theorem dX2_readOne_33 : decode cX2_readOne 33 = .ok (.dup, 1) := by decide +kernel
theorem dX2_readOne_34 : decode cX2_readOne 34 = .ok (.getfield 19, 3) := by decide +kernel
theorem dX2_readOne_37 : decode cX2_readOne 37 = .ok (.iconst 1, 1) := by decide +kernel
theorem dX2_readOne_38 : decode cX2_readOne 38 = .ok (.iadd, 1) := by decide +kernel
theorem dX2_readOne_39 : decode cX2_readOne 39 = .ok (.putfield 19, 3) := by decide +kernel
theorem dX2_readOne_42 : decode cX2_readOne 42 = .ok (.iload_n 2, 1) := by decide +kernel
theorem dX2_readOne_43 : decode cX2_readOne 43 = .ok (.ifCond .ne 28, 3) := by decide +kernel
theorem dX2_readOne_46 : decode cX2_readOne 46 = .ok (.aload_n 0, 1) := by decide +kernel
theorem dX2_readOne_47 : decode cX2_readOne 47 = .ok (.iload_n 1, 1) := by decide +kernel
theorem dX2_readOne_48 : decode cX2_readOne 48 = .ok (.iconst 1, 1) := by decide +kernel
theorem dX2_readOne_49 : decode cX2_readOne 49 = .ok (.iadd, 1) := by decide +kernel
theorem dX2_readOne_50 : decode cX2_readOne 50 = .ok (.invokevirtual 53, 3) := by decide +kernel
theorem dX2_readOne_53 : decode cX2_readOne 53 = .ok (.ifCond .eq 16, 3) := by decide +kernel
theorem dX2_readOne_56 : decode cX2_readOne 56 = .ok (.aload_n 0, 1) := by decide +kernel
theorem dX2_readOne_57 : decode cX2_readOne 57 = .ok (.bipush 41, 2) := by decide +kernel
theorem dX2_readOne_59 : decode cX2_readOne 59 = .ok (.invokevirtual 47, 3) := by decide +kernel
theorem dX2_readOne_62 : decode cX2_readOne 62 = .ok (.ifCond .eq 7, 3) := by decide +kernel
theorem dX2_readOne_65 : decode cX2_readOne 65 = .ok (.iconst 1, 1) := by decide +kernel
theorem dX2_readOne_66 : decode cX2_readOne 66 = .ok (.goto 4, 3) := by decide +kernel
theorem dX2_readOne_69 : decode cX2_readOne 69 = .ok (.iconst 0, 1) := by decide +kernel
theorem dX2_readOne_70 : decode cX2_readOne 70 = .ok (.ireturn, 1) := by decide +kernel
theorem dX2_readOne_71 : decode cX2_readOne 71 = .ok (.aload_n 0, 1) := by decide +kernel
theorem dX2_readOne_72 : decode cX2_readOne 72 = .ok (.iload_n 1, 1) := by decide +kernel
theorem dX2_readOne_73 : decode cX2_readOne 73 = .ok (.iconst 1, 1) := by decide +kernel
theorem dX2_readOne_74 : decode cX2_readOne 74 = .ok (.iadd, 1) := by decide +kernel
theorem dX2_readOne_75 : decode cX2_readOne 75 = .ok (.invokevirtual 100, 3) := by decide +kernel
theorem dX2_readOne_78 : decode cX2_readOne 78 = .ok (.istore_n 3, 1) := by decide +kernel
theorem dX2_readOne_79 : decode cX2_readOne 79 = .ok (.aload_n 0, 1) := by decide +kernel
theorem dX2_readOne_80 : decode cX2_readOne 80 = .ok (.getfield 28, 3) := by decide +kernel
theorem dX2_readOne_83 : decode cX2_readOne 83 = .ok (.iconst 1, 1) := by decide +kernel
theorem dX2_readOne_84 : decode cX2_readOne 84 = .ok (.invokevirtual 96, 3) := by decide +kernel
theorem dX2_readOne_87 : decode cX2_readOne 87 = .ok (.iload_n 3, 1) := by decide +kernel
theorem dX2_readOne_88 : decode cX2_readOne 88 = .ok (.ireturn, 1) := by decide +kernel
theorem dX2_readTest_0 : decode cX2_readTest 0 = .ok (.aload_n 0, 1) := by decide +kernel
theorem dX2_readTest_1 : decode cX2_readTest 1 = .ok (.getfield 19, 3) := by decide +kernel
theorem dX2_readTest_4 : decode cX2_readTest 4 = .ok (.aload_n 0, 1) := by decide +kernel
theorem dX2_readTest_5 : decode cX2_readTest 5 = .ok (.getfield 15, 3) := by decide +kernel
theorem dX2_readTest_8 : decode cX2_readTest 8 = .ok (.if_icmp .ge 20, 3) := by decide +kernel
theorem dX2_readTest_11 : decode cX2_readTest 11 = .ok (.ldc 106, 2) := by decide +kernel
theorem dX2_readTest_13 : decode cX2_readTest 13 = .ok (.aload_n 0, 1) := by decide +kernel
theorem dX2_readTest_14 : decode cX2_readTest 14 = .ok (.getfield 9, 3) := by decide +kernel
theorem dX2_readTest_17 : decode cX2_readTest 17 = .ok (.aload_n 0, 1) := by decide +kernel
theorem dX2_readTest_18 : decode cX2_readTest 18 = .ok (.getfield 19, 3) := by decide +kernel
theorem dX2_readTest_21 : decode cX2_readTest 21 = .ok (.caload, 1) := by decide +kernel
theorem dX2_readTest_22 : decode cX2_readTest 22 = .ok (.invokevirtual 108, 3) := by decide +kernel
theorem dX2_readTest_25 : decode cX2_readTest 25 = .ok (.goto 4, 3) := by decide +kernel
theorem dX2_readTest_28 : decode cX2_readTest 28 = .ok (.iconst (-1), 1) := by decide +kernel
theorem dX2_readTest_29 : decode cX2_readTest 29 = .ok (.istore_n 1, 1) := by decide +kernel
theorem dX2_readTest_30 : decode cX2_readTest 30 = .ok (.iload_n 1, 1) := by decide +kernel
theorem dX2_readTest_31 : decode cX2_readTest 31 = .ok (.ifCond .ge 5, 3) := by decide +kernel
theorem dX2_readTest_34 : decode cX2_readTest 34 = .ok (.iconst 0, 1) := by decide +kernel
theorem dX2_readTest_35 : decode cX2_readTest 35 = .ok (.ireturn, 1) := by decide +kernel
theorem dX2_readTest_36 : decode cX2_readTest 36 = .ok (.aload_n 0, 1) := by decide +kernel
theorem dX2_readTest_37 : decode cX2_readTest 37 = .ok (.dup, 1) := by decide +kernel
theorem dX2_readTest_38 : decode cX2_readTest 38 = .ok (.getfield 19, 3) := by decide +kernel
theorem dX2_readTest_41 : decode cX2_readTest 41 = .ok (.iconst 1, 1) := by decide +kernel
theorem dX2_readTest_42 : decode cX2_readTest 42 = .ok (.iadd, 1) := by decide +kernel
theorem dX2_readTest_43 : decode cX2_readTest 43 = .ok (.putfield 19, 3) := by decide +kernel
theorem dX2_readTest_46 : decode cX2_readTest 46 = .ok (.aload_n 0, 1) := by decide +kernel
theorem dX2_readTest_47 : decode cX2_readTest 47 = .ok (.getfield 19, 3) := by decide +kernel
theorem dX2_readTest_50 : decode cX2_readTest 50 = .ok (.aload_n 0, 1) := by decide +kernel
theorem dX2_readTest_51 : decode cX2_readTest 51 = .ok (.getfield 15, 3) := by decide +kernel
theorem dX2_readTest_54 : decode cX2_readTest 54 = .ok (.if_icmp .ge 20, 3) := by decide +kernel
theorem dX2_readTest_57 : decode cX2_readTest 57 = .ok (.ldc 112, 2) := by decide +kernel
theorem dX2_readTest_59 : decode cX2_readTest 59 = .ok (.aload_n 0, 1) := by decide +kernel
theorem dX2_readTest_60 : decode cX2_readTest 60 = .ok (.getfield 9, 3) := by decide +kernel
theorem dX2_readTest_63 : decode cX2_readTest 63 = .ok (.aload_n 0, 1) := by decide +kernel
theorem dX2_readTest_64 : decode cX2_readTest 64 = .ok (.getfield 19, 3) := by decide +kernel
theorem dX2_readTest_67 : decode cX2_readTest 67 = .ok (.caload, 1) := by decide +kernel
theorem dX2_readTest_68 : decode cX2_readTest 68 = .ok (.invokevirtual 108, 3) := by decide +kernel
theorem dX2_readTest_71 : decode cX2_readTest 71 = .ok (.goto 4, 3) := by decide +kernel
theorem dX2_readTest_74 : decode cX2_readTest 74 = .ok (.iconst (-1), 1) := by decide +kernel
theorem dX2_readTest_75 : decode cX2_readTest 75 = .ok (.istore_n 2, 1) := by decide +kernel
theorem dX2_readTest_76 : decode cX2_readTest 76 = .ok (.iload_n 2, 1) := by decide +kernel
theorem dX2_readTest_77 : decode cX2_readTest 77 = .ok (.ifCond .ge 5, 3) := by decide +kernel
theorem dX2_readTest_80 : decode cX2_readTest 80 = .ok (.iconst 0, 1) := by decide +kernel
theorem dX2_readTest_81 : decode cX2_readTest 81 = .ok (.ireturn, 1) := by decide +kernel
theorem dX2_readTest_82 : decode cX2_readTest 82 = .ok (.aload_n 0, 1) := by decide +kernel
theorem dX2_readTest_83 : decode cX2_readTest 83 = .ok (.dup, 1) := by decide +kernel
theorem dX2_readTest_84 : decode cX2_readTest 84 = .ok (.getfield 19, 3) := by decide +kernel
theorem dX2_readTest_87 : decode cX2_readTest 87 = .ok (.iconst 1, 1) := by decide +kernel
theorem dX2_readTest_88 : decode cX2_readTest 88 = .ok (.iadd, 1) := by decide +kernel
theorem dX2_readTest_89 : decode cX2_readTest 89 = .ok (.putfield 19, 3) := by decide +kernel
theorem dX2_readTest_92 : decode cX2_readTest 92 = .ok (.aload_n 0, 1) := by decide +kernel
theorem dX2_readTest_93 : decode cX2_readTest 93 = .ok (.invokevirtual 50, 3) := by decide +kernel
theorem dX2_readTest_96 : decode cX2_readTest 96 = .ok (.ifCond .ne 5, 3) := by decide +kernel
theorem dX2_readTest_99 : decode cX2_readTest 99 = .ok (.iconst 0, 1) := by decide +kernel
theorem dX2_readTest_100 : decode cX2_readTest 100 = .ok (.ireturn, 1) := by decide +kernel
theorem dX2_readTest_101 : decode cX2_readTest 101 = .ok (.aload_n 0, 1) := by decide +kernel
theorem dX2_readTest_102 : decode cX2_readTest 102 = .ok (.getfield 28, 3) := by decide +kernel
theorem dX2_readTest_105 : decode cX2_readTest 105 = .ok (.iload_n 1, 1) := by decide +kernel
theorem dX2_readTest_106 : decode cX2_readTest 106 = .ok (.iload_n 2, 1) := by decide +kernel
theorem dX2_readTest_107 : decode cX2_readTest 107 = .ok (.aload_n 0, 1) := by decide +kernel
theorem dX2_readTest_108 : decode cX2_readTest 108 = .ok (.getfield 22, 3) := by decide +kernel
theorem dX2_readTest_111 : decode cX2_readTest 111 = .ok (.invokevirtual 114, 3) := by decide +kernel
theorem dX2_readTest_114 : decode cX2_readTest 114 = .ok (.iconst 1, 1) := by decide +kernel
theorem dX2_readTest_115 : decode cX2_readTest 115 = .ok (.ireturn, 1) := by decide +kernel
theorem dX2_sees_0 : decode cX2_sees 0 = .ok (.aload_n 0, 1) := by decide +kernel
theorem dX2_sees_1 : decode cX2_sees 1 = .ok (.getfield 19, 3) := by decide +kernel
theorem dX2_sees_4 : decode cX2_sees 4 = .ok (.aload_n 0, 1) := by decide +kernel
theorem dX2_sees_5 : decode cX2_sees 5 = .ok (.getfield 15, 3) := by decide +kernel
theorem dX2_sees_8 : decode cX2_sees 8 = .ok (.if_icmp .ge 20, 3) := by decide +kernel
theorem dX2_sees_11 : decode cX2_sees 11 = .ok (.aload_n 0, 1) := by decide +kernel
theorem dX2_sees_12 : decode cX2_sees 12 = .ok (.getfield 9, 3) := by decide +kernel
theorem dX2_sees_15 : decode cX2_sees 15 = .ok (.aload_n 0, 1) := by decide +kernel
theorem dX2_sees_16 : decode cX2_sees 16 = .ok (.getfield 19, 3) := by decide +kernel
theorem dX2_sees_19 : decode cX2_sees 19 = .ok (.caload, 1) := by decide +kernel
theorem dX2_sees_20 : decode cX2_sees 20 = .ok (.iload_n 1, 1) := by decide +kernel
theorem dX2_sees_21 : decode cX2_sees 21 = .ok (.if_icmp .ne 7, 3) := by decide +kernel
theorem dX2_sees_24 : decode cX2_sees 24 = .ok (.iconst 1, 1) := by decide +kernel
theorem dX2_sees_25 : decode cX2_sees 25 = .ok (.goto 4, 3) := by decide +kernel
theorem dX2_sees_28 : decode cX2_sees 28 = .ok (.iconst 0, 1) := by decide +kernel
theorem dX2_sees_29 : decode cX2_sees 29 = .ok (.ireturn, 1) := by decide +kernel
theorem dX2_takes_0 : decode cX2_takes 0 = .ok (.aload_n 0, 1) := by decide +kernel
theorem dX2_takes_1 : decode cX2_takes 1 = .ok (.iload_n 1, 1) := by decide +kernel
theorem dX2_takes_2 : decode cX2_takes 2 = .ok (.invokevirtual 39, 3) := by decide +kernel
theorem dX2_takes_5 : decode cX2_takes 5 = .ok (.ifCond .ne 5, 3) := by decide +kernel
theorem dX2_takes_8 : decode cX2_takes 8 = .ok (.iconst 0, 1) := by decide +kernel
theorem dX2_takes_9 : decode cX2_takes 9 = .ok (.ireturn, 1) := by decide +kernel
theorem dX2_takes_10 : decode cX2_takes 10 = .ok (.aload_n 0, 1) := by decide +kernel
theorem dX2_takes_11 : decode cX2_takes 11 = .ok (.dup, 1) := by decide +kernel
theorem dX2_takes_12 : decode cX2_takes 12 = .ok (.getfield 19, 3) := by decide +kernel
theorem dX2_takes_15 : decode cX2_takes 15 = .ok (.iconst 1, 1) := by decide +kernel
theorem dX2_takes_16 : decode cX2_takes 16 = .ok (.iadd, 1) := by decide +kernel
theorem dX2_takes_17 : decode cX2_takes 17 = .ok (.putfield 19, 3) := by decide +kernel
theorem dX2_takes_20 : decode cX2_takes 20 = .ok (.iconst 1, 1) := by decide +kernel
theorem dX2_takes_21 : decode cX2_takes 21 = .ok (.ireturn, 1) := by decide +kernel
theorem dX3_init_0 : decode cX3_init 0 = .ok (.aload_n 0, 1) := by decide +kernel
theorem dX3_init_1 : decode cX3_init 1 = .ok (.invokespecial 3, 3) := by decide +kernel
theorem dX3_init_4 : decode cX3_init 4 = .ok (.aload_n 0, 1) := by decide +kernel
theorem dX3_init_5 : decode cX3_init 5 = .ok (.iconst 5, 1) := by decide +kernel
theorem dX3_init_6 : decode cX3_init 6 = .ok (.newarray .int, 2) := by decide +kernel
theorem dX3_init_8 : decode cX3_init 8 = .ok (.putfield 9, 3) := by decide +kernel
theorem dX3_init_11 : decode cX3_init 11 = .ok (.aload_n 0, 1) := by decide +kernel
theorem dX3_init_12 : decode cX3_init 12 = .ok (.iconst 5, 1) := by decide +kernel
theorem dX3_init_13 : decode cX3_init 13 = .ok (.newarray .int, 2) := by decide +kernel
theorem dX3_init_15 : decode cX3_init 15 = .ok (.putfield 15, 3) := by decide +kernel
theorem dX3_init_18 : decode cX3_init 18 = .ok (.aload_n 0, 1) := by decide +kernel
theorem dX3_init_19 : decode cX3_init 19 = .ok (.iconst 5, 1) := by decide +kernel
theorem dX3_init_20 : decode cX3_init 20 = .ok (.newarray .int, 2) := by decide +kernel
theorem dX3_init_22 : decode cX3_init 22 = .ok (.putfield 18, 3) := by decide +kernel
theorem dX3_init_25 : decode cX3_init 25 = .ok (.aload_n 0, 1) := by decide +kernel
theorem dX3_init_26 : decode cX3_init 26 = .ok (.iconst 5, 1) := by decide +kernel
theorem dX3_init_27 : decode cX3_init 27 = .ok (.newarray .int, 2) := by decide +kernel
theorem dX3_init_29 : decode cX3_init 29 = .ok (.putfield 21, 3) := by decide +kernel
theorem dX3_init_32 : decode cX3_init 32 = .ok (.aload_n 0, 1) := by decide +kernel
theorem dX3_init_33 : decode cX3_init 33 = .ok (.bipush 6, 2) := by decide +kernel
theorem dX3_init_35 : decode cX3_init 35 = .ok (.newarray .int, 2) := by decide +kernel
theorem dX3_init_37 : decode cX3_init 37 = .ok (.putfield 24, 3) := by decide +kernel
theorem dX3_init_40 : decode cX3_init 40 = .ok (.aload_n 0, 1) := by decide +kernel
theorem dX3_init_41 : decode cX3_init 41 = .ok (.bipush 50, 2) := by decide +kernel
theorem dX3_init_43 : decode cX3_init 43 = .ok (.newarray .int, 2) := by decide +kernel
theorem dX3_init_45 : decode cX3_init 45 = .ok (.putfield 27, 3) := by decide +kernel
theorem dX3_init_48 : decode cX3_init 48 = .ok (.aload_n 0, 1) := by decide +kernel
theorem dX3_init_49 : decode cX3_init 49 = .ok (.iconst 5, 1) := by decide +kernel
theorem dX3_init_50 : decode cX3_init 50 = .ok (.newarray .int, 2) := by decide +kernel
theorem dX3_init_52 : decode cX3_init 52 = .ok (.putfield 30, 3) := by decide +kernel
theorem dX3_init_55 : decode cX3_init 55 = .ok (.aload_n 0, 1) := by decide +kernel
theorem dX3_init_56 : decode cX3_init 56 = .ok (.bipush 50, 2) := by decide +kernel
theorem dX3_init_58 : decode cX3_init 58 = .ok (.newarray .int, 2) := by decide +kernel
theorem dX3_init_60 : decode cX3_init 60 = .ok (.putfield 33, 3) := by decide +kernel
theorem dX3_init_63 : decode cX3_init 63 = .ok (.aload_n 0, 1) := by decide +kernel
theorem dX3_init_64 : decode cX3_init 64 = .ok (.new 36, 3) := by decide +kernel
theorem dX3_init_67 : decode cX3_init 67 = .ok (.dup, 1) := by decide +kernel
theorem dX3_init_68 : decode cX3_init 68 = .ok (.invokespecial 38, 3) := by decide +kernel
theorem dX3_init_71 : decode cX3_init 71 = .ok (.putfield 39, 3) := by decide +kernel
theorem dX3_init_74 : decode cX3_init 74 = .ok (.aload_n 0, 1) := by decide +kernel
theorem dX3_init_75 : decode cX3_init 75 = .ok (.new 43, 3) := by decide +kernel
theorem dX3_init_78 : decode cX3_init 78 = .ok (.dup, 1) := by decide +kernel
theorem dX3_init_79 : decode cX3_init 79 = .ok (.invokespecial 45, 3) := by decide +kernel
theorem dX3_init_82 : decode cX3_init 82 = .ok (.putfield 46, 3) := by decide +kernel
theorem dX3_init_85 : decode cX3_init 85 = .ok (.aload_n 0, 1) := by decide +kernel
theorem dX3_init_86 : decode cX3_init 86 = .ok (.iconst 0, 1) := by decide +kernel
theorem dX3_init_87 : decode cX3_init 87 = .ok (.putfield 50, 3) := by decide +kernel
theorem dX3_init_90 : decode cX3_init 90 = .ok (.aload_n 0, 1) := by decide +kernel
theorem dX3_init_91 : decode cX3_init 91 = .ok (.iconst 0, 1) := by decide +kernel
theorem dX3_init_92 : decode cX3_init 92 = .ok (.putfield 54, 3) := by decide +kernel
theorem dX3_init_95 : decode cX3_init 95 = .ok (.aload_n 0, 1) := by decide +kernel
theorem dX3_init_96 : decode cX3_init 96 = .ok (.bipush (-5), 2) := by decide +kernel
theorem dX3_init_98 : decode cX3_init 98 = .ok (.putfield 57, 3) := by decide +kernel
theorem dX3_init_101 : decode cX3_init 101 = .ok (.aload_n 0, 1) := by decide +kernel
theorem dX3_init_102 : decode cX3_init 102 = .ok (.iconst (-1), 1) := by decide +kernel
theorem dX3_init_103 : decode cX3_init 103 = .ok (.putfield 60, 3) := by decide +kernel
theorem dX3_init_106 : decode cX3_init 106 = .ok (.aload_n 0, 1) := by decide +kernel
theorem dX3_init_107 : decode cX3_init 107 = .ok (.iconst 0, 1) := by decide +kernel
theorem dX3_init_108 : decode cX3_init 108 = .ok (.putfield 63, 3) := by decide +kernel
theorem dX3_init_111 : decode cX3_init 111 = .ok (.aload_n 0, 1) := by decide +kernel
theorem dX3_init_112 : decode cX3_init 112 = .ok (.iconst (-1), 1) := by decide +kernel
theorem dX3_init_113 : decode cX3_init 113 = .ok (.putfield 67, 3) := by decide +kernel
theorem dX3_init_116 : decode cX3_init 116 = .ok (.aload_n 0, 1) := by decide +kernel
theorem dX3_init_117 : decode cX3_init 117 = .ok (.iconst (-1), 1) := by decide +kernel
theorem dX3_init_118 : decode cX3_init 118 = .ok (.putfield 70, 3) := by decide +kernel
theorem dX3_init_121 : decode cX3_init 121 = .ok (.return_, 1) := by decide +kernel
theorem dX3_agree_0 : decode cX3_agree 0 = .ok (.aload_n 0, 1) := by decide +kernel
theorem dX3_agree_1 : decode cX3_agree 1 = .ok (.iload_n 1, 1) := by decide +kernel
theorem dX3_agree_2 : decode cX3_agree 2 = .ok (.putfield 67, 3) := by decide +kernel
theorem dX3_agree_5 : decode cX3_agree 5 = .ok (.aload_n 0, 1) := by decide +kernel
theorem dX3_agree_6 : decode cX3_agree 6 = .ok (.iload_n 2, 1) := by decide +kernel
theorem dX3_agree_7 : decode cX3_agree 7 = .ok (.putfield 70, 3) := by decide +kernel
theorem dX3_agree_10 : decode cX3_agree 10 = .ok (.return_, 1) := by decide +kernel
theorem dX3_begin_0 : decode cX3_begin 0 = .ok (.aload_n 0, 1) := by decide +kernel
theorem dX3_begin_1 : decode cX3_begin 1 = .ok (.aload_n 1, 1) := by decide +kernel
theorem dX3_begin_2 : decode cX3_begin 2 = .ok (.putfield 39, 3) := by decide +kernel
theorem dX3_begin_5 : decode cX3_begin 5 = .ok (.aload_n 0, 1) := by decide +kernel
theorem dX3_begin_6 : decode cX3_begin 6 = .ok (.aload_n 2, 1) := by decide +kernel
theorem dX3_begin_7 : decode cX3_begin 7 = .ok (.putfield 46, 3) := by decide +kernel
theorem dX3_begin_10 : decode cX3_begin 10 = .ok (.aload_n 0, 1) := by decide +kernel
theorem dX3_begin_11 : decode cX3_begin 11 = .ok (.aload_n 0, 1) := by decide +kernel
theorem dX3_begin_12 : decode cX3_begin 12 = .ok (.getfield 60, 3) := by decide +kernel
theorem dX3_begin_15 : decode cX3_begin 15 = .ok (.iconst (-1), 1) := by decide +kernel
theorem dX3_begin_16 : decode cX3_begin 16 = .ok (.if_icmp .ne 10, 3) := by decide +kernel
theorem dX3_begin_19 : decode cX3_begin 19 = .ok (.aload_n 2, 1) := by decide +kernel
theorem dX3_begin_20 : decode cX3_begin 20 = .ok (.getfield 73, 3) := by decide +kernel
theorem dX3_begin_23 : decode cX3_begin 23 = .ok (.goto 7, 3) := by decide +kernel
theorem dX3_begin_26 : decode cX3_begin 26 = .ok (.aload_n 0, 1) := by decide +kernel
theorem dX3_begin_27 : decode cX3_begin 27 = .ok (.getfield 60, 3) := by decide +kernel
theorem dX3_begin_30 : decode cX3_begin 30 = .ok (.putfield 50, 3) := by decide +kernel
theorem dX3_begin_33 : decode cX3_begin 33 = .ok (.aload_n 0, 1) := by decide +kernel
theorem dX3_begin_34 : decode cX3_begin 34 = .ok (.getfield 24, 3) := by decide +kernel
theorem dX3_begin_37 : decode cX3_begin 37 = .ok (.iconst 4, 1) := by decide +kernel
theorem dX3_begin_38 : decode cX3_begin 38 = .ok (.aload_n 1, 1) := by decide +kernel
theorem dX3_begin_39 : decode cX3_begin 39 = .ok (.getfield 74, 3) := by decide +kernel
theorem dX3_begin_42 : decode cX3_begin 42 = .ok (.bipush 10, 2) := by decide +kernel
theorem dX3_begin_44 : decode cX3_begin 44 = .ok (.idiv, 1) := by decide +kernel
theorem dX3_begin_45 : decode cX3_begin 45 = .ok (.iastore, 1) := by decide +kernel
theorem dX3_begin_46 : decode cX3_begin 46 = .ok (.aload_n 0, 1) := by decide +kernel
theorem dX3_begin_47 : decode cX3_begin 47 = .ok (.getfield 24, 3) := by decide +kernel
theorem dX3_begin_50 : decode cX3_begin 50 = .ok (.iconst 5, 1) := by decide +kernel
theorem dX3_begin_51 : decode cX3_begin 51 = .ok (.aload_n 1, 1) := by decide +kernel
theorem dX3_begin_52 : decode cX3_begin 52 = .ok (.getfield 77, 3) := by decide +kernel
theorem dX3_begin_55 : decode cX3_begin 55 = .ok (.bipush 7, 2) := by decide +kernel
theorem dX3_begin_57 : decode cX3_begin 57 = .ok (.irem, 1) := by decide +kernel
theorem dX3_begin_58 : decode cX3_begin 58 = .ok (.iastore, 1) := by decide +kernel
theorem dX3_begin_59 : decode cX3_begin 59 = .ok (.aload_n 0, 1) := by decide +kernel
theorem dX3_begin_60 : decode cX3_begin 60 = .ok (.getfield 30, 3) := by decide +kernel
theorem dX3_begin_63 : decode cX3_begin 63 = .ok (.iconst 0, 1) := by decide +kernel
theorem dX3_begin_64 : decode cX3_begin 64 = .ok (.invokestatic 80, 3) := by decide +kernel
theorem dX3_begin_67 : decode cX3_begin 67 = .ok (.aload_n 0, 1) := by decide +kernel
theorem dX3_begin_68 : decode cX3_begin 68 = .ok (.getfield 33, 3) := by decide +kernel
theorem dX3_begin_71 : decode cX3_begin 71 = .ok (.iconst (-1), 1) := by decide +kernel
theorem dX3_begin_72 : decode cX3_begin 72 = .ok (.invokestatic 80, 3) := by decide +kernel
theorem dX3_begin_75 : decode cX3_begin 75 = .ok (.return_, 1) := by decide +kernel
theorem dX3_hold_0 : decode cX3_hold 0 = .ok (.aload_n 1, 1) := by decide +kernel
theorem dX3_hold_1 : decode cX3_hold 1 = .ok (.getfield 86, 3) := by decide +kernel
theorem dX3_hold_4 : decode cX3_hold 4 = .ok (.ifCond .ne 4, 3) := by decide +kernel
theorem dX3_hold_7 : decode cX3_hold 7 = .ok (.return_, 1) := by decide +kernel
theorem dX3_hold_8 : decode cX3_hold 8 = .ok (.aload_n 0, 1) := by decide +kernel
theorem dX3_hold_9 : decode cX3_hold 9 = .ok (.aload_n 1, 1) := by decide +kernel
theorem dX3_hold_10 : decode cX3_hold 10 = .ok (.aload_n 2, 1) := by decide +kernel
theorem dX3_hold_11 : decode cX3_hold 11 = .ok (.invokevirtual 89, 3) := by decide +kernel
theorem dX3_hold_14 : decode cX3_hold 14 = .ok (.iconst 0, 1) := by decide +kernel
theorem dX3_hold_15 : decode cX3_hold 15 = .ok (.istore_n 3, 1) := by decide +kernel
theorem dX3_hold_16 : decode cX3_hold 16 = .ok (.iload_n 3, 1) := by decide +kernel
theorem dX3_hold_17 : decode cX3_hold 17 = .ok (.aload_n 1, 1) := by decide +kernel
theorem dX3_hold_18 : decode cX3_hold 18 = .ok (.getfield 86, 3) := by decide +kernel
theorem dX3_hold_21 : decode cX3_hold 21 = .ok (.if_icmp .ge 20, 3) := by decide +kernel
theorem dX3_hold_24 : decode cX3_hold 24 = .ok (.aload_n 0, 1) := by decide +kernel
theorem dX3_hold_25 : decode cX3_hold 25 = .ok (.getfield 9, 3) := by decide +kernel
theorem dX3_hold_28 : decode cX3_hold 28 = .ok (.iload_n 3, 1) := by decide +kernel
theorem dX3_hold_29 : decode cX3_hold 29 = .ok (.aload_n 0, 1) := by decide +kernel
theorem dX3_hold_30 : decode cX3_hold 30 = .ok (.iload_n 3, 1) := by decide +kernel
theorem dX3_hold_31 : decode cX3_hold 31 = .ok (.invokevirtual 93, 3) := by decide +kernel
theorem dX3_hold_34 : decode cX3_hold 34 = .ok (.iastore, 1) := by decide +kernel
theorem dX3_hold_35 : decode cX3_hold 35 = .ok (.iinc 3 1, 3) := by decide +kernel
theorem dX3_hold_38 : decode cX3_hold 38 = .ok (.goto (-22), 3) := by decide +kernel
theorem dX3_hold_41 : decode cX3_hold 41 = .ok (.aload_n 0, 1) := by decide +kernel
theorem dX3_hold_42 : decode cX3_hold 42 = .ok (.invokevirtual 97, 3) := by decide +kernel
theorem dX3_hold_45 : decode cX3_hold 45 = .ok (.aload_n 0, 1) := by decide +kernel
theorem dX3_hold_46 : decode cX3_hold 46 = .ok (.aload_n 0, 1) := by decide +kernel
theorem dX3_hold_47 : decode cX3_hold 47 = .ok (.getfield 9, 3) := by decide +kernel
theorem dX3_hold_50 : decode cX3_hold 50 = .ok (.invokevirtual 100, 3) := by decide +kernel
theorem dX3_hold_53 : decode cX3_hold 53 = .ok (.iconst 0, 1) := by decide +kernel
theorem dX3_hold_54 : decode cX3_hold 54 = .ok (.istore_n 3, 1) := by decide +kernel
theorem dX3_hold_55 : decode cX3_hold 55 = .ok (.iload_n 3, 1) := by decide +kernel
theorem dX3_hold_56 : decode cX3_hold 56 = .ok (.aload_n 1, 1) := by decide +kernel
theorem dX3_hold_57 : decode cX3_hold 57 = .ok (.getfield 86, 3) := by decide +kernel
theorem dX3_hold_60 : decode cX3_hold 60 = .ok (.if_icmp .ge 35, 3) := by decide +kernel
theorem dX3_hold_63 : decode cX3_hold 63 = .ok (.aload_n 1, 1) := by decide +kernel
theorem dX3_hold_64 : decode cX3_hold 64 = .ok (.getfield 104, 3) := by decide +kernel
theorem dX3_hold_67 : decode cX3_hold 67 = .ok (.iload_n 3, 1) := by decide +kernel
theorem dX3_hold_68 : decode cX3_hold 68 = .ok (.aload_n 0, 1) := by decide +kernel
theorem dX3_hold_69 : decode cX3_hold 69 = .ok (.getfield 18, 3) := by decide +kernel
theorem dX3_hold_72 : decode cX3_hold 72 = .ok (.iload_n 3, 1) := by decide +kernel
theorem dX3_hold_73 : decode cX3_hold 73 = .ok (.iaload, 1) := by decide +kernel
theorem dX3_hold_74 : decode cX3_hold 74 = .ok (.iastore, 1) := by decide +kernel
theorem dX3_hold_75 : decode cX3_hold 75 = .ok (.aload_n 1, 1) := by decide +kernel
theorem dX3_hold_76 : decode cX3_hold 76 = .ok (.getfield 107, 3) := by decide +kernel
theorem dX3_hold_79 : decode cX3_hold 79 = .ok (.iload_n 3, 1) := by decide +kernel
theorem dX3_hold_80 : decode cX3_hold 80 = .ok (.dup2, 1) := by decide +kernel
theorem dX3_hold_81 : decode cX3_hold 81 = .ok (.iaload, 1) := by decide +kernel
theorem dX3_hold_82 : decode cX3_hold 82 = .ok (.aload_n 0, 1) := by decide +kernel
theorem dX3_hold_83 : decode cX3_hold 83 = .ok (.iload_n 3, 1) := by decide +kernel
theorem dX3_hold_84 : decode cX3_hold 84 = .ok (.invokevirtual 110, 3) := by decide +kernel
theorem dX3_hold_87 : decode cX3_hold 87 = .ok (.iadd, 1) := by decide +kernel
theorem dX3_hold_88 : decode cX3_hold 88 = .ok (.iastore, 1) := by decide +kernel
theorem dX3_hold_89 : decode cX3_hold 89 = .ok (.iinc 3 1, 3) := by decide +kernel
theorem dX3_hold_92 : decode cX3_hold 92 = .ok (.goto (-37), 3) := by decide +kernel
theorem dX3_hold_95 : decode cX3_hold 95 = .ok (.aload_n 1, 1) := by decide +kernel
theorem dX3_hold_96 : decode cX3_hold 96 = .ok (.bipush 99, 2) := by decide +kernel
theorem dX3_hold_98 : decode cX3_hold 98 = .ok (.aload_n 0, 1) := by decide +kernel
theorem dX3_hold_99 : decode cX3_hold 99 = .ok (.getfield 54, 3) := by decide +kernel
theorem dX3_hold_102 : decode cX3_hold 102 = .ok (.aload_n 2, 1) := by decide +kernel
theorem dX3_hold_103 : decode cX3_hold 103 = .ok (.getfield 113, 3) := by decide +kernel
theorem dX3_hold_106 : decode cX3_hold 106 = .ok (.iadd, 1) := by decide +kernel
theorem dX3_hold_107 : decode cX3_hold 107 = .ok (.invokestatic 116, 3) := by decide +kernel
theorem dX3_hold_110 : decode cX3_hold 110 = .ok (.putfield 74, 3) := by decide +kernel
theorem dX3_hold_113 : decode cX3_hold 113 = .ok (.aload_n 1, 1) := by decide +kernel
theorem dX3_hold_114 : decode cX3_hold 114 = .ok (.dup, 1) := by decide +kernel
theorem dX3_hold_115 : decode cX3_hold 115 = .ok (.getfield 77, 3) := by decide +kernel
theorem dX3_hold_118 : decode cX3_hold 118 = .ok (.iconst 1, 1) := by decide +kernel
theorem dX3_hold_119 : decode cX3_hold 119 = .ok (.iadd, 1) := by decide +kernel
theorem dX3_hold_120 : decode cX3_hold 120 = .ok (.putfield 77, 3) := by decide +kernel
theorem dX3_hold_123 : decode cX3_hold 123 = .ok (.aload_n 1, 1) := by decide +kernel
theorem dX3_hold_124 : decode cX3_hold 124 = .ok (.aload_n 0, 1) := by decide +kernel
theorem dX3_hold_125 : decode cX3_hold 125 = .ok (.getfield 57, 3) := by decide +kernel
theorem dX3_hold_128 : decode cX3_hold 128 = .ok (.putfield 122, 3) := by decide +kernel
theorem dX3_hold_131 : decode cX3_hold 131 = .ok (.return_, 1) := by decide +kernel
theorem dX3_keepPact_0 : decode cX3_keepPact 0 = .ok (.aload_n 0, 1) := by decide +kernel
theorem dX3_keepPact_1 : decode cX3_keepPact 1 = .ok (.getfield 67, 3) := by decide +kernel
theorem dX3_keepPact_4 : decode cX3_keepPact 4 = .ok (.iconst (-1), 1) := by decide +kernel
theorem dX3_keepPact_5 : decode cX3_keepPact 5 = .ok (.if_icmp .eq 11, 3) := by decide +kernel
theorem dX3_keepPact_8 : decode cX3_keepPact 8 = .ok (.aload_n 0, 1) := by decide +kernel
theorem dX3_keepPact_9 : decode cX3_keepPact 9 = .ok (.getfield 70, 3) := by decide +kernel
theorem dX3_keepPact_12 : decode cX3_keepPact 12 = .ok (.iconst (-1), 1) := by decide +kernel
theorem dX3_keepPact_13 : decode cX3_keepPact 13 = .ok (.if_icmp .ne 4, 3) := by decide +kernel
theorem dX3_keepPact_16 : decode cX3_keepPact 16 = .ok (.return_, 1) := by decide +kernel
theorem dX3_keepPact_17 : decode cX3_keepPact 17 = .ok (.aload_n 0, 1) := by decide +kernel
theorem dX3_keepPact_18 : decode cX3_keepPact 18 = .ok (.getfield 39, 3) := by decide +kernel
theorem dX3_keepPact_21 : decode cX3_keepPact 21 = .ok (.getfield 77, 3) := by decide +kernel
theorem dX3_keepPact_24 : decode cX3_keepPact 24 = .ok (.iconst 2, 1) := by decide +kernel
theorem dX3_keepPact_25 : decode cX3_keepPact 25 = .ok (.irem, 1) := by decide +kernel
theorem dX3_keepPact_26 : decode cX3_keepPact 26 = .ok (.ifCond .ne 7, 3) := by decide +kernel
theorem dX3_keepPact_29 : decode cX3_keepPact 29 = .ok (.iconst 1, 1) := by decide +kernel
theorem dX3_keepPact_30 : decode cX3_keepPact 30 = .ok (.goto 4, 3) := by decide +kernel
theorem dX3_keepPact_33 : decode cX3_keepPact 33 = .ok (.iconst 0, 1) := by decide +kernel
theorem dX3_keepPact_34 : decode cX3_keepPact 34 = .ok (.istore_n 1, 1) := by decide +kernel
theorem dX3_keepPact_35 : decode cX3_keepPact 35 = .ok (.aload_n 0, 1) := by decide +kernel
theorem dX3_keepPact_36 : decode cX3_keepPact 36 = .ok (.getfield 9, 3) := by decide +kernel
theorem dX3_keepPact_39 : decode cX3_keepPact 39 = .ok (.aload_n 0, 1) := by decide +kernel
theorem dX3_keepPact_40 : decode cX3_keepPact 40 = .ok (.getfield 67, 3) := by decide +kernel
theorem dX3_keepPact_43 : decode cX3_keepPact 43 = .ok (.iload_n 1, 1) := by decide +kernel
theorem dX3_keepPact_44 : decode cX3_keepPact 44 = .ok (.ifCond .eq 7, 3) := by decide +kernel
theorem dX3_keepPact_47 : decode cX3_keepPact 47 = .ok (.iconst 0, 1) := by decide +kernel
theorem dX3_keepPact_48 : decode cX3_keepPact 48 = .ok (.goto 5, 3) := by decide +kernel
theorem dX3_keepPact_51 : decode cX3_keepPact 51 = .ok (.bipush 9, 2) := by decide +kernel
theorem dX3_keepPact_53 : decode cX3_keepPact 53 = .ok (.iastore, 1) := by decide +kernel
theorem dX3_keepPact_54 : decode cX3_keepPact 54 = .ok (.aload_n 0, 1) := by decide +kernel
theorem dX3_keepPact_55 : decode cX3_keepPact 55 = .ok (.getfield 9, 3) := by decide +kernel
theorem dX3_keepPact_58 : decode cX3_keepPact 58 = .ok (.aload_n 0, 1) := by decide +kernel
theorem dX3_keepPact_59 : decode cX3_keepPact 59 = .ok (.getfield 70, 3) := by decide +kernel
theorem dX3_keepPact_62 : decode cX3_keepPact 62 = .ok (.iload_n 1, 1) := by decide +kernel
theorem dX3_keepPact_63 : decode cX3_keepPact 63 = .ok (.ifCond .eq 8, 3) := by decide +kernel
theorem dX3_keepPact_66 : decode cX3_keepPact 66 = .ok (.bipush 9, 2) := by decide +kernel
theorem dX3_keepPact_68 : decode cX3_keepPact 68 = .ok (.goto 4, 3) := by decide +kernel
theorem dX3_keepPact_71 : decode cX3_keepPact 71 = .ok (.iconst 0, 1) := by decide +kernel
theorem dX3_keepPact_72 : decode cX3_keepPact 72 = .ok (.iastore, 1) := by decide +kernel
theorem dX3_keepPact_73 : decode cX3_keepPact 73 = .ok (.return_, 1) := by decide +kernel
theorem dX3_wishOf_0 : decode cX3_wishOf 0 = .ok (.aload_n 0, 1) := by decide +kernel
theorem dX3_wishOf_1 : decode cX3_wishOf 1 = .ok (.getfield 39, 3) := by decide +kernel
theorem dX3_wishOf_4 : decode cX3_wishOf 4 = .ok (.getfield 123, 3) := by decide +kernel
theorem dX3_wishOf_7 : decode cX3_wishOf 7 = .ok (.iload_n 1, 1) := by decide +kernel
theorem dX3_wishOf_8 : decode cX3_wishOf 8 = .ok (.iaload, 1) := by decide +kernel
theorem dX3_wishOf_9 : decode cX3_wishOf 9 = .ok (.iconst 4, 1) := by decide +kernel
theorem dX3_wishOf_10 : decode cX3_wishOf 10 = .ok (.if_icmp .eq 12, 3) := by decide +kernel
theorem dX3_wishOf_13 : decode cX3_wishOf 13 = .ok (.aload_n 0, 1) := by decide +kernel
theorem dX3_wishOf_14 : decode cX3_wishOf 14 = .ok (.getfield 39, 3) := by decide +kernel
theorem dX3_wishOf_17 : decode cX3_wishOf 17 = .ok (.iload_n 1, 1) := by decide +kernel
theorem dX3_wishOf_18 : decode cX3_wishOf 18 = .ok (.invokevirtual 126, 3) := by decide +kernel
theorem dX3_wishOf_21 : decode cX3_wishOf 21 = .ok (.ireturn, 1) := by decide +kernel
theorem dX3_wishOf_22 : decode cX3_wishOf 22 = .ok (.iconst 0, 1) := by decide +kernel
theorem dX3_wishOf_23 : decode cX3_wishOf 23 = .ok (.istore_n 2, 1) := by decide +kernel
theorem dX3_wishOf_24 : decode cX3_wishOf 24 = .ok (.iload_n 2, 1) := by decide +kernel
theorem dX3_wishOf_25 : decode cX3_wishOf 25 = .ok (.aload_n 0, 1) := by decide +kernel
theorem dX3_wishOf_26 : decode cX3_wishOf 26 = .ok (.getfield 39, 3) := by decide +kernel
theorem dX3_wishOf_29 : decode cX3_wishOf 29 = .ok (.getfield 86, 3) := by decide +kernel
theorem dX3_wishOf_32 : decode cX3_wishOf 32 = .ok (.if_icmp .ge 23, 3) := by decide +kernel
theorem dX3_wishOf_35 : decode cX3_wishOf 35 = .ok (.aload_n 0, 1) := by decide +kernel
theorem dX3_wishOf_36 : decode cX3_wishOf 36 = .ok (.getfield 15, 3) := by decide +kernel
theorem dX3_wishOf_39 : decode cX3_wishOf 39 = .ok (.iload_n 2, 1) := by decide +kernel
theorem dX3_wishOf_40 : decode cX3_wishOf 40 = .ok (.aload_n 0, 1) := by decide +kernel
theorem dX3_wishOf_41 : decode cX3_wishOf 41 = .ok (.getfield 39, 3) := by decide +kernel
theorem dX3_wishOf_44 : decode cX3_wishOf 44 = .ok (.iload_n 2, 1) := by decide +kernel
theorem dX3_wishOf_45 : decode cX3_wishOf 45 = .ok (.invokevirtual 126, 3) := by decide +kernel
theorem dX3_wishOf_48 : decode cX3_wishOf 48 = .ok (.iastore, 1) := by decide +kernel
theorem dX3_wishOf_49 : decode cX3_wishOf 49 = .ok (.iinc 2 1, 3) := by decide +kernel
theorem dX3_wishOf_52 : decode cX3_wishOf 52 = .ok (.goto (-28), 3) := by decide +kernel
theorem dX3_wishOf_55 : decode cX3_wishOf 55 = .ok (.iconst 0, 1) := by decide +kernel
theorem dX3_wishOf_56 : decode cX3_wishOf 56 = .ok (.istore_n 2, 1) := by decide +kernel
theorem dX3_wishOf_57 : decode cX3_wishOf 57 = .ok (.iconst 0, 1) := by decide +kernel
theorem dX3_wishOf_58 : decode cX3_wishOf 58 = .ok (.istore_n 3, 1) := by decide +kernel
theorem dX3_wishOf_59 : decode cX3_wishOf 59 = .ok (.iconst 0, 1) := by decide +kernel
theorem dX3_wishOf_60 : decode cX3_wishOf 60 = .ok (.istore 4, 2) := by decide +kernel
theorem dX3_wishOf_62 : decode cX3_wishOf 62 = .ok (.iload 4, 2) := by decide +kernel
theorem dX3_wishOf_64 : decode cX3_wishOf 64 = .ok (.bipush 9, 2) := by decide +kernel
theorem dX3_wishOf_66 : decode cX3_wishOf 66 = .ok (.if_icmp .gt 49, 3) := by decide +kernel
theorem dX3_wishOf_69 : decode cX3_wishOf 69 = .ok (.aload_n 0, 1) := by decide +kernel
theorem dX3_wishOf_70 : decode cX3_wishOf 70 = .ok (.getfield 15, 3) := by decide +kernel
theorem dX3_wishOf_73 : decode cX3_wishOf 73 = .ok (.iload_n 1, 1) := by decide +kernel
theorem dX3_wishOf_74 : decode cX3_wishOf 74 = .ok (.iload 4, 2) := by decide +kernel
theorem dX3_wishOf_76 : decode cX3_wishOf 76 = .ok (.iastore, 1) := by decide +kernel
theorem dX3_wishOf_77 : decode cX3_wishOf 77 = .ok (.aload_n 0, 1) := by decide +kernel
theorem dX3_wishOf_78 : decode cX3_wishOf 78 = .ok (.aload_n 0, 1) := by decide +kernel
theorem dX3_wishOf_79 : decode cX3_wishOf 79 = .ok (.getfield 15, 3) := by decide +kernel
theorem dX3_wishOf_82 : decode cX3_wishOf 82 = .ok (.invokevirtual 100, 3) := by decide +kernel
theorem dX3_wishOf_85 : decode cX3_wishOf 85 = .ok (.aload_n 0, 1) := by decide +kernel
theorem dX3_wishOf_86 : decode cX3_wishOf 86 = .ok (.iload_n 1, 1) := by decide +kernel
theorem dX3_wishOf_87 : decode cX3_wishOf 87 = .ok (.invokevirtual 110, 3) := by decide +kernel
theorem dX3_wishOf_90 : decode cX3_wishOf 90 = .ok (.istore 5, 2) := by decide +kernel
theorem dX3_wishOf_92 : decode cX3_wishOf 92 = .ok (.iload 4, 2) := by decide +kernel
theorem dX3_wishOf_94 : decode cX3_wishOf 94 = .ok (.ifCond .eq 9, 3) := by decide +kernel
theorem dX3_wishOf_97 : decode cX3_wishOf 97 = .ok (.iload 5, 2) := by decide +kernel
theorem dX3_wishOf_99 : decode cX3_wishOf 99 = .ok (.iload_n 3, 1) := by decide +kernel
theorem dX3_wishOf_100 : decode cX3_wishOf 100 = .ok (.if_icmp .le 9, 3) := by decide +kernel
theorem dX3_wishOf_103 : decode cX3_wishOf 103 = .ok (.iload 4, 2) := by decide +kernel
theorem dX3_wishOf_105 : decode cX3_wishOf 105 = .ok (.istore_n 2, 1) := by decide +kernel
theorem dX3_wishOf_106 : decode cX3_wishOf 106 = .ok (.iload 5, 2) := by decide +kernel
theorem dX3_wishOf_108 : decode cX3_wishOf 108 = .ok (.istore_n 3, 1) := by decide +kernel
theorem dX3_wishOf_109 : decode cX3_wishOf 109 = .ok (.iinc 4 1, 3) := by decide +kernel
theorem dX3_wishOf_112 : decode cX3_wishOf 112 = .ok (.goto (-50), 3) := by decide +kernel
theorem dX3_wishOf_115 : decode cX3_wishOf 115 = .ok (.iload_n 2, 1) := by decide +kernel
theorem dX3_wishOf_116 : decode cX3_wishOf 116 = .ok (.ireturn, 1) := by decide +kernel
theorem dX3_serve_0 : decode cX3_serve 0 = .ok (.aload_n 0, 1) := by decide +kernel
theorem dX3_serve_1 : decode cX3_serve 1 = .ok (.aload_n 0, 1) := by decide +kernel
theorem dX3_serve_2 : decode cX3_serve 2 = .ok (.getfield 39, 3) := by decide +kernel
theorem dX3_serve_5 : decode cX3_serve 5 = .ok (.getfield 74, 3) := by decide +kernel
theorem dX3_serve_8 : decode cX3_serve 8 = .ok (.putfield 54, 3) := by decide +kernel
theorem dX3_serve_11 : decode cX3_serve 11 = .ok (.iconst 0, 1) := by decide +kernel
theorem dX3_serve_12 : decode cX3_serve 12 = .ok (.istore_n 2, 1) := by decide +kernel
theorem dX3_serve_13 : decode cX3_serve 13 = .ok (.iload_n 2, 1) := by decide +kernel
theorem dX3_serve_14 : decode cX3_serve 14 = .ok (.aload_n 0, 1) := by decide +kernel
theorem dX3_serve_15 : decode cX3_serve 15 = .ok (.getfield 39, 3) := by decide +kernel
theorem dX3_serve_18 : decode cX3_serve 18 = .ok (.getfield 86, 3) := by decide +kernel
theorem dX3_serve_21 : decode cX3_serve 21 = .ok (.if_icmp .ge 64, 3) := by decide +kernel
theorem dX3_serve_24 : decode cX3_serve 24 = .ok (.aload_n 0, 1) := by decide +kernel
theorem dX3_serve_25 : decode cX3_serve 25 = .ok (.getfield 18, 3) := by decide +kernel
theorem dX3_serve_28 : decode cX3_serve 28 = .ok (.iload_n 2, 1) := by decide +kernel
theorem dX3_serve_29 : decode cX3_serve 29 = .ok (.aload_n 1, 1) := by decide +kernel
theorem dX3_serve_30 : decode cX3_serve 30 = .ok (.iload_n 2, 1) := by decide +kernel
theorem dX3_serve_31 : decode cX3_serve 31 = .ok (.iaload, 1) := by decide +kernel
theorem dX3_serve_32 : decode cX3_serve 32 = .ok (.aload_n 0, 1) := by decide +kernel
theorem dX3_serve_33 : decode cX3_serve 33 = .ok (.getfield 54, 3) := by decide +kernel
theorem dX3_serve_36 : decode cX3_serve 36 = .ok (.invokestatic 116, 3) := by decide +kernel
theorem dX3_serve_39 : decode cX3_serve 39 = .ok (.iastore, 1) := by decide +kernel
theorem dX3_serve_40 : decode cX3_serve 40 = .ok (.aload_n 0, 1) := by decide +kernel
theorem dX3_serve_41 : decode cX3_serve 41 = .ok (.dup, 1) := by decide +kernel
theorem dX3_serve_42 : decode cX3_serve 42 = .ok (.getfield 54, 3) := by decide +kernel
theorem dX3_serve_45 : decode cX3_serve 45 = .ok (.aload_n 0, 1) := by decide +kernel
theorem dX3_serve_46 : decode cX3_serve 46 = .ok (.getfield 18, 3) := by decide +kernel
theorem dX3_serve_49 : decode cX3_serve 49 = .ok (.iload_n 2, 1) := by decide +kernel
theorem dX3_serve_50 : decode cX3_serve 50 = .ok (.iaload, 1) := by decide +kernel
theorem dX3_serve_51 : decode cX3_serve 51 = .ok (.isub, 1) := by decide +kernel
theorem dX3_serve_52 : decode cX3_serve 52 = .ok (.putfield 54, 3) := by decide +kernel
theorem dX3_serve_55 : decode cX3_serve 55 = .ok (.aload_n 0, 1) := by decide +kernel
theorem dX3_serve_56 : decode cX3_serve 56 = .ok (.getfield 21, 3) := by decide +kernel
theorem dX3_serve_59 : decode cX3_serve 59 = .ok (.iload_n 2, 1) := by decide +kernel
theorem dX3_serve_60 : decode cX3_serve 60 = .ok (.aload_n 0, 1) := by decide +kernel
theorem dX3_serve_61 : decode cX3_serve 61 = .ok (.getfield 18, 3) := by decide +kernel
theorem dX3_serve_64 : decode cX3_serve 64 = .ok (.iload_n 2, 1) := by decide +kernel
theorem dX3_serve_65 : decode cX3_serve 65 = .ok (.iaload, 1) := by decide +kernel
theorem dX3_serve_66 : decode cX3_serve 66 = .ok (.iconst 1, 1) := by decide +kernel
theorem dX3_serve_67 : decode cX3_serve 67 = .ok (.aload_n 0, 1) := by decide +kernel
theorem dX3_serve_68 : decode cX3_serve 68 = .ok (.getfield 46, 3) := by decide +kernel
theorem dX3_serve_71 : decode cX3_serve 71 = .ok (.getfield 129, 3) := by decide +kernel
theorem dX3_serve_74 : decode cX3_serve 74 = .ok (.invokestatic 132, 3) := by decide +kernel
theorem dX3_serve_77 : decode cX3_serve 77 = .ok (.idiv, 1) := by decide +kernel
theorem dX3_serve_78 : decode cX3_serve 78 = .ok (.iastore, 1) := by decide +kernel
theorem dX3_serve_79 : decode cX3_serve 79 = .ok (.iinc 2 1, 3) := by decide +kernel
theorem dX3_serve_82 : decode cX3_serve 82 = .ok (.goto (-69), 3) := by decide +kernel
theorem dX3_serve_85 : decode cX3_serve 85 = .ok (.aload_n 0, 1) := by decide +kernel
theorem dX3_serve_86 : decode cX3_serve 86 = .ok (.aload_n 0, 1) := by decide +kernel
theorem dX3_serve_87 : decode cX3_serve 87 = .ok (.getfield 50, 3) := by decide +kernel
theorem dX3_serve_90 : decode cX3_serve 90 = .ok (.iconst 2, 1) := by decide +kernel
theorem dX3_serve_91 : decode cX3_serve 91 = .ok (.if_icmp .ne 10, 3) := by decide +kernel
theorem dX3_serve_94 : decode cX3_serve 94 = .ok (.aload_n 0, 1) := by decide +kernel
theorem dX3_serve_95 : decode cX3_serve 95 = .ok (.invokevirtual 135, 3) := by decide +kernel
theorem dX3_serve_98 : decode cX3_serve 98 = .ok (.goto 7, 3) := by decide +kernel
theorem dX3_serve_101 : decode cX3_serve 101 = .ok (.aload_n 0, 1) := by decide +kernel
theorem dX3_serve_102 : decode cX3_serve 102 = .ok (.invokevirtual 139, 3) := by decide +kernel
theorem dX3_serve_105 : decode cX3_serve 105 = .ok (.putfield 57, 3) := by decide +kernel
theorem dX3_serve_108 : decode cX3_serve 108 = .ok (.return_, 1) := by decide +kernel
theorem dX3_outermost_0 : decode cX3_outermost 0 = .ok (.aload_n 0, 1) := by decide +kernel
theorem dX3_outermost_1 : decode cX3_outermost 1 = .ok (.getfield 39, 3) := by decide +kernel
theorem dX3_outermost_4 : decode cX3_outermost 4 = .ok (.getfield 86, 3) := by decide +kernel
theorem dX3_outermost_7 : decode cX3_outermost 7 = .ok (.ifCond .le 7, 3) := by decide +kernel
theorem dX3_outermost_10 : decode cX3_outermost 10 = .ok (.iconst 0, 1) := by decide +kernel
theorem dX3_outermost_11 : decode cX3_outermost 11 = .ok (.goto 5, 3) := by decide +kernel
theorem dX3_outermost_14 : decode cX3_outermost 14 = .ok (.bipush (-5), 2) := by decide +kernel
theorem dX3_outermost_16 : decode cX3_outermost 16 = .ok (.istore_n 1, 1) := by decide +kernel
theorem dX3_outermost_17 : decode cX3_outermost 17 = .ok (.iconst 1, 1) := by decide +kernel
theorem dX3_outermost_18 : decode cX3_outermost 18 = .ok (.istore_n 2, 1) := by decide +kernel
theorem dX3_outermost_19 : decode cX3_outermost 19 = .ok (.iload_n 2, 1) := by decide +kernel
theorem dX3_outermost_20 : decode cX3_outermost 20 = .ok (.aload_n 0, 1) := by decide +kernel
theorem dX3_outermost_21 : decode cX3_outermost 21 = .ok (.getfield 39, 3) := by decide +kernel
theorem dX3_outermost_24 : decode cX3_outermost 24 = .ok (.getfield 86, 3) := by decide +kernel
theorem dX3_outermost_27 : decode cX3_outermost 27 = .ok (.if_icmp .ge 43, 3) := by decide +kernel
theorem dX3_outermost_30 : decode cX3_outermost 30 = .ok (.aload_n 0, 1) := by decide +kernel
theorem dX3_outermost_31 : decode cX3_outermost 31 = .ok (.getfield 21, 3) := by decide +kernel
theorem dX3_outermost_34 : decode cX3_outermost 34 = .ok (.iload_n 2, 1) := by decide +kernel
theorem dX3_outermost_35 : decode cX3_outermost 35 = .ok (.iaload, 1) := by decide +kernel
theorem dX3_outermost_36 : decode cX3_outermost 36 = .ok (.aload_n 0, 1) := by decide +kernel
theorem dX3_outermost_37 : decode cX3_outermost 37 = .ok (.getfield 21, 3) := by decide +kernel
theorem dX3_outermost_40 : decode cX3_outermost 40 = .ok (.iload_n 1, 1) := by decide +kernel
theorem dX3_outermost_41 : decode cX3_outermost 41 = .ok (.iaload, 1) := by decide +kernel
theorem dX3_outermost_42 : decode cX3_outermost 42 = .ok (.isub, 1) := by decide +kernel
theorem dX3_outermost_43 : decode cX3_outermost 43 = .ok (.istore_n 3, 1) := by decide +kernel
theorem dX3_outermost_44 : decode cX3_outermost 44 = .ok (.aload_n 0, 1) := by decide +kernel
theorem dX3_outermost_45 : decode cX3_outermost 45 = .ok (.getfield 50, 3) := by decide +kernel
theorem dX3_outermost_48 : decode cX3_outermost 48 = .ok (.ifCond .ne 10, 3) := by decide +kernel
theorem dX3_outermost_51 : decode cX3_outermost 51 = .ok (.iload_n 3, 1) := by decide +kernel
theorem dX3_outermost_52 : decode cX3_outermost 52 = .ok (.ifCond .ge 12, 3) := by decide +kernel
theorem dX3_outermost_55 : decode cX3_outermost 55 = .ok (.goto 7, 3) := by decide +kernel
theorem dX3_outermost_58 : decode cX3_outermost 58 = .ok (.iload_n 3, 1) := by decide +kernel
theorem dX3_outermost_59 : decode cX3_outermost 59 = .ok (.ifCond .le 5, 3) := by decide +kernel
theorem dX3_outermost_62 : decode cX3_outermost 62 = .ok (.iload_n 2, 1) := by decide +kernel
theorem dX3_outermost_63 : decode cX3_outermost 63 = .ok (.istore_n 1, 1) := by decide +kernel
theorem dX3_outermost_64 : decode cX3_outermost 64 = .ok (.iinc 2 1, 3) := by decide +kernel
theorem dX3_outermost_67 : decode cX3_outermost 67 = .ok (.goto (-48), 3) := by decide +kernel
theorem dX3_outermost_70 : decode cX3_outermost 70 = .ok (.iload_n 1, 1) := by decide +kernel
theorem dX3_outermost_71 : decode cX3_outermost 71 = .ok (.ireturn, 1) := by decide +kernel
theorem dX3_middle_0 : decode cX3_middle 0 = .ok (.iconst 0, 1) := by decide +kernel
theorem dX3_middle_1 : decode cX3_middle 1 = .ok (.istore_n 1, 1) := by decide +kernel
theorem dX3_middle_2 : decode cX3_middle 2 = .ok (.iload_n 1, 1) := by decide +kernel
theorem dX3_middle_3 : decode cX3_middle 3 = .ok (.aload_n 0, 1) := by decide +kernel
theorem dX3_middle_4 : decode cX3_middle 4 = .ok (.getfield 39, 3) := by decide +kernel
theorem dX3_middle_7 : decode cX3_middle 7 = .ok (.getfield 86, 3) := by decide +kernel
theorem dX3_middle_10 : decode cX3_middle 10 = .ok (.if_icmp .ge 28, 3) := by decide +kernel
theorem dX3_middle_13 : decode cX3_middle 13 = .ok (.aload_n 0, 1) := by decide +kernel
theorem dX3_middle_14 : decode cX3_middle 14 = .ok (.iload_n 1, 1) := by decide +kernel
theorem dX3_middle_15 : decode cX3_middle 15 = .ok (.invokevirtual 142, 3) := by decide +kernel
theorem dX3_middle_18 : decode cX3_middle 18 = .ok (.aload_n 0, 1) := by decide +kernel
theorem dX3_middle_19 : decode cX3_middle 19 = .ok (.getfield 39, 3) := by decide +kernel
theorem dX3_middle_22 : decode cX3_middle 22 = .ok (.getfield 86, 3) := by decide +kernel
theorem dX3_middle_25 : decode cX3_middle 25 = .ok (.iconst 2, 1) := by decide +kernel
theorem dX3_middle_26 : decode cX3_middle 26 = .ok (.idiv, 1) := by decide +kernel
theorem dX3_middle_27 : decode cX3_middle 27 = .ok (.if_icmp .ne 5, 3) := by decide +kernel
theorem dX3_middle_30 : decode cX3_middle 30 = .ok (.iload_n 1, 1) := by decide +kernel
theorem dX3_middle_31 : decode cX3_middle 31 = .ok (.ireturn, 1) := by decide +kernel
theorem dX3_middle_32 : decode cX3_middle 32 = .ok (.iinc 1 1, 3) := by decide +kernel
theorem dX3_middle_35 : decode cX3_middle 35 = .ok (.goto (-33), 3) := by decide +kernel
theorem dX3_middle_38 : decode cX3_middle 38 = .ok (.bipush (-5), 2) := by decide +kernel
theorem dX3_middle_40 : decode cX3_middle 40 = .ok (.ireturn, 1) := by decide +kernel
theorem dX3_placeOf_0 : decode cX3_placeOf 0 = .ok (.iconst 0, 1) := by decide +kernel
theorem dX3_placeOf_1 : decode cX3_placeOf 1 = .ok (.istore_n 2, 1) := by decide +kernel
theorem dX3_placeOf_2 : decode cX3_placeOf 2 = .ok (.iconst 0, 1) := by decide +kernel
theorem dX3_placeOf_3 : decode cX3_placeOf 3 = .ok (.istore_n 3, 1) := by decide +kernel
theorem dX3_placeOf_4 : decode cX3_placeOf 4 = .ok (.iload_n 3, 1) := by decide +kernel
theorem dX3_placeOf_5 : decode cX3_placeOf 5 = .ok (.aload_n 0, 1) := by decide +kernel
theorem dX3_placeOf_6 : decode cX3_placeOf 6 = .ok (.getfield 39, 3) := by decide +kernel
theorem dX3_placeOf_9 : decode cX3_placeOf 9 = .ok (.getfield 86, 3) := by decide +kernel
theorem dX3_placeOf_12 : decode cX3_placeOf 12 = .ok (.if_icmp .ge 42, 3) := by decide +kernel
theorem dX3_placeOf_15 : decode cX3_placeOf 15 = .ok (.aload_n 0, 1) := by decide +kernel
theorem dX3_placeOf_16 : decode cX3_placeOf 16 = .ok (.getfield 21, 3) := by decide +kernel
theorem dX3_placeOf_19 : decode cX3_placeOf 19 = .ok (.iload_n 1, 1) := by decide +kernel
theorem dX3_placeOf_20 : decode cX3_placeOf 20 = .ok (.iaload, 1) := by decide +kernel
theorem dX3_placeOf_21 : decode cX3_placeOf 21 = .ok (.aload_n 0, 1) := by decide +kernel
theorem dX3_placeOf_22 : decode cX3_placeOf 22 = .ok (.getfield 21, 3) := by decide +kernel
theorem dX3_placeOf_25 : decode cX3_placeOf 25 = .ok (.iload_n 3, 1) := by decide +kernel
theorem dX3_placeOf_26 : decode cX3_placeOf 26 = .ok (.iaload, 1) := by decide +kernel
theorem dX3_placeOf_27 : decode cX3_placeOf 27 = .ok (.isub, 1) := by decide +kernel
theorem dX3_placeOf_28 : decode cX3_placeOf 28 = .ok (.istore 4, 2) := by decide +kernel
theorem dX3_placeOf_30 : decode cX3_placeOf 30 = .ok (.iload 4, 2) := by decide +kernel
theorem dX3_placeOf_32 : decode cX3_placeOf 32 = .ok (.ifCond .gt 13, 3) := by decide +kernel
theorem dX3_placeOf_35 : decode cX3_placeOf 35 = .ok (.iload 4, 2) := by decide +kernel
theorem dX3_placeOf_37 : decode cX3_placeOf 37 = .ok (.ifCond .ne 11, 3) := by decide +kernel
theorem dX3_placeOf_40 : decode cX3_placeOf 40 = .ok (.iload_n 3, 1) := by decide +kernel
theorem dX3_placeOf_41 : decode cX3_placeOf 41 = .ok (.iload_n 1, 1) := by decide +kernel
theorem dX3_placeOf_42 : decode cX3_placeOf 42 = .ok (.if_icmp .ge 6, 3) := by decide +kernel
theorem dX3_placeOf_45 : decode cX3_placeOf 45 = .ok (.iinc 2 1, 3) := by decide +kernel
theorem dX3_placeOf_48 : decode cX3_placeOf 48 = .ok (.iinc 3 1, 3) := by decide +kernel
theorem dX3_placeOf_51 : decode cX3_placeOf 51 = .ok (.goto (-47), 3) := by decide +kernel
theorem dX3_placeOf_54 : decode cX3_placeOf 54 = .ok (.iload_n 2, 1) := by decide +kernel
theorem dX3_placeOf_55 : decode cX3_placeOf 55 = .ok (.ireturn, 1) := by decide +kernel
theorem dX3_isLikeBaker_0 : decode cX3_isLikeBaker 0 = .ok (.aload_n 0, 1) := by decide +kernel
theorem dX3_isLikeBaker_1 : decode cX3_isLikeBaker 1 = .ok (.getfield 57, 3) := by decide +kernel
theorem dX3_isLikeBaker_4 : decode cX3_isLikeBaker 4 = .ok (.ifCond .lt 25, 3) := by decide +kernel
theorem dX3_isLikeBaker_7 : decode cX3_isLikeBaker 7 = .ok (.aload_n 0, 1) := by decide +kernel
theorem dX3_isLikeBaker_8 : decode cX3_isLikeBaker 8 = .ok (.getfield 21, 3) := by decide +kernel
theorem dX3_isLikeBaker_11 : decode cX3_isLikeBaker 11 = .ok (.iload_n 1, 1) := by decide +kernel
theorem dX3_isLikeBaker_12 : decode cX3_isLikeBaker 12 = .ok (.iaload, 1) := by decide +kernel
theorem dX3_isLikeBaker_13 : decode cX3_isLikeBaker 13 = .ok (.aload_n 0, 1) := by decide +kernel
theorem dX3_isLikeBaker_14 : decode cX3_isLikeBaker 14 = .ok (.getfield 21, 3) := by decide +kernel
theorem dX3_isLikeBaker_17 : decode cX3_isLikeBaker 17 = .ok (.aload_n 0, 1) := by decide +kernel
theorem dX3_isLikeBaker_18 : decode cX3_isLikeBaker 18 = .ok (.getfield 57, 3) := by decide +kernel
theorem dX3_isLikeBaker_21 : decode cX3_isLikeBaker 21 = .ok (.iaload, 1) := by decide +kernel
theorem dX3_isLikeBaker_22 : decode cX3_isLikeBaker 22 = .ok (.if_icmp .ne 7, 3) := by decide +kernel
theorem dX3_isLikeBaker_25 : decode cX3_isLikeBaker 25 = .ok (.iconst 1, 1) := by decide +kernel
theorem dX3_isLikeBaker_26 : decode cX3_isLikeBaker 26 = .ok (.goto 4, 3) := by decide +kernel
theorem dX3_isLikeBaker_29 : decode cX3_isLikeBaker 29 = .ok (.iconst 0, 1) := by decide +kernel
theorem dX3_isLikeBaker_30 : decode cX3_isLikeBaker 30 = .ok (.ireturn, 1) := by decide +kernel
theorem dX3_likeBaker_0 : decode cX3_likeBaker 0 = .ok (.iconst 0, 1) := by decide +kernel
theorem dX3_likeBaker_1 : decode cX3_likeBaker 1 = .ok (.istore_n 1, 1) := by decide +kernel
theorem dX3_likeBaker_2 : decode cX3_likeBaker 2 = .ok (.iconst 0, 1) := by decide +kernel
theorem dX3_likeBaker_3 : decode cX3_likeBaker 3 = .ok (.istore_n 2, 1) := by decide +kernel
theorem dX3_likeBaker_4 : decode cX3_likeBaker 4 = .ok (.iload_n 2, 1) := by decide +kernel
theorem dX3_likeBaker_5 : decode cX3_likeBaker 5 = .ok (.aload_n 0, 1) := by decide +kernel
theorem dX3_likeBaker_6 : decode cX3_likeBaker 6 = .ok (.getfield 39, 3) := by decide +kernel
theorem dX3_likeBaker_9 : decode cX3_likeBaker 9 = .ok (.getfield 86, 3) := by decide +kernel
theorem dX3_likeBaker_12 : decode cX3_likeBaker 12 = .ok (.if_icmp .ge 25, 3) := by decide +kernel
theorem dX3_likeBaker_15 : decode cX3_likeBaker 15 = .ok (.iload_n 1, 1) := by decide +kernel
theorem dX3_likeBaker_16 : decode cX3_likeBaker 16 = .ok (.aload_n 0, 1) := by decide +kernel
theorem dX3_likeBaker_17 : decode cX3_likeBaker 17 = .ok (.iload_n 2, 1) := by decide +kernel
theorem dX3_likeBaker_18 : decode cX3_likeBaker 18 = .ok (.invokevirtual 145, 3) := by decide +kernel
theorem dX3_likeBaker_21 : decode cX3_likeBaker 21 = .ok (.ifCond .eq 7, 3) := by decide +kernel
theorem dX3_likeBaker_24 : decode cX3_likeBaker 24 = .ok (.iconst 1, 1) := by decide +kernel
theorem dX3_likeBaker_25 : decode cX3_likeBaker 25 = .ok (.goto 4, 3) := by decide +kernel
theorem dX3_likeBaker_28 : decode cX3_likeBaker 28 = .ok (.iconst 0, 1) := by decide +kernel
theorem dX3_likeBaker_29 : decode cX3_likeBaker 29 = .ok (.iadd, 1) := by decide +kernel
theorem dX3_likeBaker_30 : decode cX3_likeBaker 30 = .ok (.istore_n 1, 1) := by decide +kernel
theorem dX3_likeBaker_31 : decode cX3_likeBaker 31 = .ok (.iinc 2 1, 3) := by decide +kernel
theorem dX3_likeBaker_34 : decode cX3_likeBaker 34 = .ok (.goto (-30), 3) := by decide +kernel
theorem dX3_likeBaker_37 : decode cX3_likeBaker 37 = .ok (.iload_n 1, 1) := by decide +kernel
theorem dX3_likeBaker_38 : decode cX3_likeBaker 38 = .ok (.ireturn, 1) := by decide +kernel
theorem dX3_someoneWentShort_0 : decode cX3_someoneWentShort 0 = .ok (.iconst 0, 1) := by decide +kernel
theorem dX3_someoneWentShort_1 : decode cX3_someoneWentShort 1 = .ok (.istore_n 1, 1) := by decide +kernel
theorem dX3_someoneWentShort_2 : decode cX3_someoneWentShort 2 = .ok (.iconst 0, 1) := by decide +kernel
theorem dX3_someoneWentShort_3 : decode cX3_someoneWentShort 3 = .ok (.istore_n 2, 1) := by decide +kernel
theorem dX3_someoneWentShort_4 : decode cX3_someoneWentShort 4 = .ok (.iload_n 2, 1) := by decide +kernel
theorem dX3_someoneWentShort_5 : decode cX3_someoneWentShort 5 = .ok (.aload_n 0, 1) := by decide +kernel
theorem dX3_someoneWentShort_6 : decode cX3_someoneWentShort 6 = .ok (.getfield 39, 3) := by decide +kernel
theorem dX3_someoneWentShort_9 : decode cX3_someoneWentShort 9 = .ok (.getfield 86, 3) := by decide +kernel
theorem dX3_someoneWentShort_12 : decode cX3_someoneWentShort 12 = .ok (.if_icmp .ge 34, 3) := by decide +kernel
theorem dX3_someoneWentShort_15 : decode cX3_someoneWentShort 15 = .ok (.iload_n 1, 1) := by decide +kernel
theorem dX3_someoneWentShort_16 : decode cX3_someoneWentShort 16 = .ok (.ifCond .ne 18, 3) := by decide +kernel
theorem dX3_someoneWentShort_19 : decode cX3_someoneWentShort 19 = .ok (.aload_n 0, 1) := by decide +kernel
theorem dX3_someoneWentShort_20 : decode cX3_someoneWentShort 20 = .ok (.getfield 18, 3) := by decide +kernel
theorem dX3_someoneWentShort_23 : decode cX3_someoneWentShort 23 = .ok (.iload_n 2, 1) := by decide +kernel
theorem dX3_someoneWentShort_24 : decode cX3_someoneWentShort 24 = .ok (.iaload, 1) := by decide +kernel
theorem dX3_someoneWentShort_25 : decode cX3_someoneWentShort 25 = .ok (.aload_n 0, 1) := by decide +kernel
theorem dX3_someoneWentShort_26 : decode cX3_someoneWentShort 26 = .ok (.getfield 9, 3) := by decide +kernel
theorem dX3_someoneWentShort_29 : decode cX3_someoneWentShort 29 = .ok (.iload_n 2, 1) := by decide +kernel
theorem dX3_someoneWentShort_30 : decode cX3_someoneWentShort 30 = .ok (.iaload, 1) := by decide +kernel
theorem dX3_someoneWentShort_31 : decode cX3_someoneWentShort 31 = .ok (.if_icmp .ge 7, 3) := by decide +kernel
theorem dX3_someoneWentShort_34 : decode cX3_someoneWentShort 34 = .ok (.iconst 1, 1) := by decide +kernel
theorem dX3_someoneWentShort_35 : decode cX3_someoneWentShort 35 = .ok (.goto 4, 3) := by decide +kernel
theorem dX3_someoneWentShort_38 : decode cX3_someoneWentShort 38 = .ok (.iconst 0, 1) := by decide +kernel
theorem dX3_someoneWentShort_39 : decode cX3_someoneWentShort 39 = .ok (.istore_n 1, 1) := by decide +kernel
theorem dX3_someoneWentShort_40 : decode cX3_someoneWentShort 40 = .ok (.iinc 2 1, 3) := by decide +kernel
theorem dX3_someoneWentShort_43 : decode cX3_someoneWentShort 43 = .ok (.goto (-39), 3) := by decide +kernel
theorem dX3_someoneWentShort_46 : decode cX3_someoneWentShort 46 = .ok (.iload_n 1, 1) := by decide +kernel
theorem dX3_someoneWentShort_47 : decode cX3_someoneWentShort 47 = .ok (.ireturn, 1) := by decide +kernel
theorem dX3_haveTogether_0 : decode cX3_haveTogether 0 = .ok (.iconst 0, 1) := by decide +kernel
theorem dX3_haveTogether_1 : decode cX3_haveTogether 1 = .ok (.istore_n 1, 1) := by decide +kernel
theorem dX3_haveTogether_2 : decode cX3_haveTogether 2 = .ok (.iconst 0, 1) := by decide +kernel
theorem dX3_haveTogether_3 : decode cX3_haveTogether 3 = .ok (.istore_n 2, 1) := by decide +kernel
theorem dX3_haveTogether_4 : decode cX3_haveTogether 4 = .ok (.iload_n 2, 1) := by decide +kernel
theorem dX3_haveTogether_5 : decode cX3_haveTogether 5 = .ok (.aload_n 0, 1) := by decide +kernel
theorem dX3_haveTogether_6 : decode cX3_haveTogether 6 = .ok (.getfield 39, 3) := by decide +kernel
theorem dX3_haveTogether_9 : decode cX3_haveTogether 9 = .ok (.getfield 86, 3) := by decide +kernel
theorem dX3_haveTogether_12 : decode cX3_haveTogether 12 = .ok (.if_icmp .ge 17, 3) := by decide +kernel
theorem dX3_haveTogether_15 : decode cX3_haveTogether 15 = .ok (.iload_n 1, 1) := by decide +kernel
theorem dX3_haveTogether_16 : decode cX3_haveTogether 16 = .ok (.aload_n 0, 1) := by decide +kernel
theorem dX3_haveTogether_17 : decode cX3_haveTogether 17 = .ok (.iload_n 2, 1) := by decide +kernel
theorem dX3_haveTogether_18 : decode cX3_haveTogether 18 = .ok (.invokevirtual 110, 3) := by decide +kernel
theorem dX3_haveTogether_21 : decode cX3_haveTogether 21 = .ok (.iadd, 1) := by decide +kernel
theorem dX3_haveTogether_22 : decode cX3_haveTogether 22 = .ok (.istore_n 1, 1) := by decide +kernel
theorem dX3_haveTogether_23 : decode cX3_haveTogether 23 = .ok (.iinc 2 1, 3) := by decide +kernel
theorem dX3_haveTogether_26 : decode cX3_haveTogether 26 = .ok (.goto (-22), 3) := by decide +kernel
theorem dX3_haveTogether_29 : decode cX3_haveTogether 29 = .ok (.iload_n 1, 1) := by decide +kernel
theorem dX3_haveTogether_30 : decode cX3_haveTogether 30 = .ok (.ireturn, 1) := by decide +kernel
theorem dX3_has_0 : decode cX3_has 0 = .ok (.iload_n 1, 1) := by decide +kernel
theorem dX3_has_1 : decode cX3_has 1 = .ok (.bipush 10, 2) := by decide +kernel
theorem dX3_has_3 : decode cX3_has 3 = .ok (.imul, 1) := by decide +kernel
theorem dX3_has_4 : decode cX3_has 4 = .ok (.istore_n 2, 1) := by decide +kernel
theorem dX3_has_5 : decode cX3_has 5 = .ok (.aload_n 0, 1) := by decide +kernel
theorem dX3_has_6 : decode cX3_has 6 = .ok (.iload_n 1, 1) := by decide +kernel
theorem dX3_has_7 : decode cX3_has 7 = .ok (.invokevirtual 149, 3) := by decide +kernel
theorem dX3_has_10 : decode cX3_has 10 = .ok (.aload_n 0, 1) := by decide +kernel
theorem dX3_has_11 : decode cX3_has 11 = .ok (.getfield 30, 3) := by decide +kernel
theorem dX3_has_14 : decode cX3_has 14 = .ok (.iload_n 1, 1) := by decide +kernel
theorem dX3_has_15 : decode cX3_has 15 = .ok (.iaload, 1) := by decide +kernel
theorem dX3_has_16 : decode cX3_has 16 = .ok (.iconst 1, 1) := by decide +kernel
theorem dX3_has_17 : decode cX3_has 17 = .ok (.iadd, 1) := by decide +kernel
theorem dX3_has_18 : decode cX3_has 18 = .ok (.istore_n 3, 1) := by decide +kernel
theorem dX3_has_19 : decode cX3_has 19 = .ok (.iload_n 3, 1) := by decide +kernel
theorem dX3_has_20 : decode cX3_has 20 = .ok (.aload_n 0, 1) := by decide +kernel
theorem dX3_has_21 : decode cX3_has 21 = .ok (.getfield 18, 3) := by decide +kernel
theorem dX3_has_24 : decode cX3_has 24 = .ok (.iload_n 1, 1) := by decide +kernel
theorem dX3_has_25 : decode cX3_has 25 = .ok (.iaload, 1) := by decide +kernel
theorem dX3_has_26 : decode cX3_has 26 = .ok (.if_icmp .gt 54, 3) := by decide +kernel
theorem dX3_has_29 : decode cX3_has 29 = .ok (.aload_n 0, 1) := by decide +kernel
theorem dX3_has_30 : decode cX3_has 30 = .ok (.getfield 24, 3) := by decide +kernel
theorem dX3_has_33 : decode cX3_has 33 = .ok (.iconst 3, 1) := by decide +kernel
theorem dX3_has_34 : decode cX3_has 34 = .ok (.iload_n 3, 1) := by decide +kernel
theorem dX3_has_35 : decode cX3_has 35 = .ok (.iastore, 1) := by decide +kernel
theorem dX3_has_36 : decode cX3_has 36 = .ok (.aload_n 0, 1) := by decide +kernel
theorem dX3_has_37 : decode cX3_has 37 = .ok (.getfield 27, 3) := by decide +kernel
theorem dX3_has_40 : decode cX3_has 40 = .ok (.iload_n 2, 1) := by decide +kernel
theorem dX3_has_41 : decode cX3_has 41 = .ok (.iload_n 3, 1) := by decide +kernel
theorem dX3_has_42 : decode cX3_has 42 = .ok (.iadd, 1) := by decide +kernel
theorem dX3_has_43 : decode cX3_has 43 = .ok (.aload_n 0, 1) := by decide +kernel
theorem dX3_has_44 : decode cX3_has 44 = .ok (.getfield 27, 3) := by decide +kernel
theorem dX3_has_47 : decode cX3_has 47 = .ok (.iload_n 2, 1) := by decide +kernel
theorem dX3_has_48 : decode cX3_has 48 = .ok (.iload_n 3, 1) := by decide +kernel
theorem dX3_has_49 : decode cX3_has 49 = .ok (.iadd, 1) := by decide +kernel
theorem dX3_has_50 : decode cX3_has 50 = .ok (.iconst 1, 1) := by decide +kernel
theorem dX3_has_51 : decode cX3_has 51 = .ok (.isub, 1) := by decide +kernel
theorem dX3_has_52 : decode cX3_has 52 = .ok (.iaload, 1) := by decide +kernel
theorem dX3_has_53 : decode cX3_has 53 = .ok (.aload_n 0, 1) := by decide +kernel
theorem dX3_has_54 : decode cX3_has 54 = .ok (.getfield 46, 3) := by decide +kernel
theorem dX3_has_57 : decode cX3_has 57 = .ok (.iconst 0, 1) := by decide +kernel
theorem dX3_has_58 : decode cX3_has 58 = .ok (.aload_n 0, 1) := by decide +kernel
theorem dX3_has_59 : decode cX3_has 59 = .ok (.getfield 24, 3) := by decide +kernel
theorem dX3_has_62 : decode cX3_has 62 = .ok (.invokevirtual 153, 3) := by decide +kernel
theorem dX3_has_65 : decode cX3_has 65 = .ok (.iadd, 1) := by decide +kernel
theorem dX3_has_66 : decode cX3_has 66 = .ok (.iastore, 1) := by decide +kernel
theorem dX3_has_67 : decode cX3_has 67 = .ok (.aload_n 0, 1) := by decide +kernel
theorem dX3_has_68 : decode cX3_has 68 = .ok (.getfield 30, 3) := by decide +kernel
theorem dX3_has_71 : decode cX3_has 71 = .ok (.iload_n 1, 1) := by decide +kernel
theorem dX3_has_72 : decode cX3_has 72 = .ok (.iload_n 3, 1) := by decide +kernel
theorem dX3_has_73 : decode cX3_has 73 = .ok (.iastore, 1) := by decide +kernel
theorem dX3_has_74 : decode cX3_has 74 = .ok (.iinc 3 1, 3) := by decide +kernel
theorem dX3_has_77 : decode cX3_has 77 = .ok (.goto (-58), 3) := by decide +kernel
theorem dX3_has_80 : decode cX3_has 80 = .ok (.aload_n 0, 1) := by decide +kernel
theorem dX3_has_81 : decode cX3_has 81 = .ok (.getfield 27, 3) := by decide +kernel
theorem dX3_has_84 : decode cX3_has 84 = .ok (.iload_n 2, 1) := by decide +kernel
theorem dX3_has_85 : decode cX3_has 85 = .ok (.aload_n 0, 1) := by decide +kernel
theorem dX3_has_86 : decode cX3_has 86 = .ok (.getfield 18, 3) := by decide +kernel
theorem dX3_has_89 : decode cX3_has 89 = .ok (.iload_n 1, 1) := by decide +kernel
theorem dX3_has_90 : decode cX3_has 90 = .ok (.iaload, 1) := by decide +kernel
theorem dX3_has_91 : decode cX3_has 91 = .ok (.iadd, 1) := by decide +kernel
theorem dX3_has_92 : decode cX3_has 92 = .ok (.iaload, 1) := by decide +kernel
theorem dX3_has_93 : decode cX3_has 93 = .ok (.istore_n 3, 1) := by decide +kernel
theorem dX3_has_94 : decode cX3_has 94 = .ok (.iload_n 1, 1) := by decide +kernel
theorem dX3_has_95 : decode cX3_has 95 = .ok (.aload_n 0, 1) := by decide +kernel
theorem dX3_has_96 : decode cX3_has 96 = .ok (.getfield 57, 3) := by decide +kernel
theorem dX3_has_99 : decode cX3_has 99 = .ok (.if_icmp .ne 10, 3) := by decide +kernel
theorem dX3_has_102 : decode cX3_has 102 = .ok (.aload_n 0, 1) := by decide +kernel
theorem dX3_has_103 : decode cX3_has 103 = .ok (.getfield 63, 3) := by decide +kernel
theorem dX3_has_106 : decode cX3_has 106 = .ok (.ifCond .eq 5, 3) := by decide +kernel
theorem dX3_has_109 : decode cX3_has 109 = .ok (.iload_n 3, 1) := by decide +kernel
theorem dX3_has_110 : decode cX3_has 110 = .ok (.ireturn, 1) := by decide +kernel
theorem dX3_has_111 : decode cX3_has 111 = .ok (.aload_n 0, 1) := by decide +kernel
theorem dX3_has_112 : decode cX3_has 112 = .ok (.getfield 33, 3) := by decide +kernel
theorem dX3_has_115 : decode cX3_has 115 = .ok (.iload_n 2, 1) := by decide +kernel
theorem dX3_has_116 : decode cX3_has 116 = .ok (.aload_n 0, 1) := by decide +kernel
theorem dX3_has_117 : decode cX3_has 117 = .ok (.getfield 18, 3) := by decide +kernel
theorem dX3_has_120 : decode cX3_has 120 = .ok (.iload_n 1, 1) := by decide +kernel
theorem dX3_has_121 : decode cX3_has 121 = .ok (.iaload, 1) := by decide +kernel
theorem dX3_has_122 : decode cX3_has 122 = .ok (.iadd, 1) := by decide +kernel
theorem dX3_has_123 : decode cX3_has 123 = .ok (.iaload, 1) := by decide +kernel
theorem dX3_has_124 : decode cX3_has 124 = .ok (.ifCond .ge 40, 3) := by decide +kernel
theorem dX3_has_127 : decode cX3_has 127 = .ok (.aload_n 0, 1) := by decide +kernel
theorem dX3_has_128 : decode cX3_has 128 = .ok (.getfield 24, 3) := by decide +kernel
theorem dX3_has_131 : decode cX3_has 131 = .ok (.iconst 3, 1) := by decide +kernel
theorem dX3_has_132 : decode cX3_has 132 = .ok (.aload_n 0, 1) := by decide +kernel
theorem dX3_has_133 : decode cX3_has 133 = .ok (.getfield 18, 3) := by decide +kernel
theorem dX3_has_136 : decode cX3_has 136 = .ok (.iload_n 1, 1) := by decide +kernel
theorem dX3_has_137 : decode cX3_has 137 = .ok (.iaload, 1) := by decide +kernel
theorem dX3_has_138 : decode cX3_has 138 = .ok (.iastore, 1) := by decide +kernel
theorem dX3_has_139 : decode cX3_has 139 = .ok (.aload_n 0, 1) := by decide +kernel
theorem dX3_has_140 : decode cX3_has 140 = .ok (.getfield 33, 3) := by decide +kernel
theorem dX3_has_143 : decode cX3_has 143 = .ok (.iload_n 2, 1) := by decide +kernel
theorem dX3_has_144 : decode cX3_has 144 = .ok (.aload_n 0, 1) := by decide +kernel
theorem dX3_has_145 : decode cX3_has 145 = .ok (.getfield 18, 3) := by decide +kernel
theorem dX3_has_148 : decode cX3_has 148 = .ok (.iload_n 1, 1) := by decide +kernel
theorem dX3_has_149 : decode cX3_has 149 = .ok (.iaload, 1) := by decide +kernel
theorem dX3_has_150 : decode cX3_has 150 = .ok (.iadd, 1) := by decide +kernel
theorem dX3_has_151 : decode cX3_has 151 = .ok (.aload_n 0, 1) := by decide +kernel
theorem dX3_has_152 : decode cX3_has 152 = .ok (.getfield 46, 3) := by decide +kernel
theorem dX3_has_155 : decode cX3_has 155 = .ok (.iconst 1, 1) := by decide +kernel
theorem dX3_has_156 : decode cX3_has 156 = .ok (.aload_n 0, 1) := by decide +kernel
theorem dX3_has_157 : decode cX3_has 157 = .ok (.getfield 24, 3) := by decide +kernel
theorem dX3_has_160 : decode cX3_has 160 = .ok (.invokevirtual 153, 3) := by decide +kernel
theorem dX3_has_163 : decode cX3_has 163 = .ok (.iastore, 1) := by decide +kernel
theorem dX3_has_164 : decode cX3_has 164 = .ok (.iload_n 3, 1) := by decide +kernel
theorem dX3_has_165 : decode cX3_has 165 = .ok (.aload_n 0, 1) := by decide +kernel
theorem dX3_has_166 : decode cX3_has 166 = .ok (.getfield 33, 3) := by decide +kernel
theorem dX3_has_169 : decode cX3_has 169 = .ok (.iload_n 2, 1) := by decide +kernel
theorem dX3_has_170 : decode cX3_has 170 = .ok (.aload_n 0, 1) := by decide +kernel
theorem dX3_has_171 : decode cX3_has 171 = .ok (.getfield 18, 3) := by decide +kernel
theorem dX3_has_174 : decode cX3_has 174 = .ok (.iload_n 1, 1) := by decide +kernel
theorem dX3_has_175 : decode cX3_has 175 = .ok (.iaload, 1) := by decide +kernel
theorem dX3_has_176 : decode cX3_has 176 = .ok (.iadd, 1) := by decide +kernel
theorem dX3_has_177 : decode cX3_has 177 = .ok (.iaload, 1) := by decide +kernel
theorem dX3_has_178 : decode cX3_has 178 = .ok (.isub, 1) := by decide +kernel
theorem dX3_has_179 : decode cX3_has 179 = .ok (.ireturn, 1) := by decide +kernel
theorem dX3_ask_0 : decode cX3_ask 0 = .ok (.aload_n 0, 1) := by decide +kernel
theorem dX3_ask_1 : decode cX3_ask 1 = .ok (.iload_n 2, 1) := by decide +kernel
theorem dX3_ask_2 : decode cX3_ask 2 = .ok (.invokevirtual 149, 3) := by decide +kernel
theorem dX3_ask_5 : decode cX3_ask 5 = .ok (.aload_n 0, 1) := by decide +kernel
theorem dX3_ask_6 : decode cX3_ask 6 = .ok (.getfield 24, 3) := by decide +kernel
theorem dX3_ask_9 : decode cX3_ask 9 = .ok (.iconst 3, 1) := by decide +kernel
theorem dX3_ask_10 : decode cX3_ask 10 = .ok (.iload_n 3, 1) := by decide +kernel
theorem dX3_ask_11 : decode cX3_ask 11 = .ok (.iastore, 1) := by decide +kernel
theorem dX3_ask_12 : decode cX3_ask 12 = .ok (.aload_n 0, 1) := by decide +kernel
theorem dX3_ask_13 : decode cX3_ask 13 = .ok (.getfield 46, 3) := by decide +kernel
theorem dX3_ask_16 : decode cX3_ask 16 = .ok (.iload_n 1, 1) := by decide +kernel
theorem dX3_ask_17 : decode cX3_ask 17 = .ok (.aload_n 0, 1) := by decide +kernel
theorem dX3_ask_18 : decode cX3_ask 18 = .ok (.getfield 24, 3) := by decide +kernel
theorem dX3_ask_21 : decode cX3_ask 21 = .ok (.invokevirtual 153, 3) := by decide +kernel
theorem dX3_ask_24 : decode cX3_ask 24 = .ok (.ireturn, 1) := by decide +kernel
theorem dX3_turnTo_0 : decode cX3_turnTo 0 = .ok (.aload_n 0, 1) := by decide +kernel
theorem dX3_turnTo_1 : decode cX3_turnTo 1 = .ok (.getfield 24, 3) := by decide +kernel
theorem dX3_turnTo_4 : decode cX3_turnTo 4 = .ok (.iconst 0, 1) := by decide +kernel
theorem dX3_turnTo_5 : decode cX3_turnTo 5 = .ok (.iload_n 1, 1) := by decide +kernel
theorem dX3_turnTo_6 : decode cX3_turnTo 6 = .ok (.iastore, 1) := by decide +kernel
theorem dX3_turnTo_7 : decode cX3_turnTo 7 = .ok (.aload_n 0, 1) := by decide +kernel
theorem dX3_turnTo_8 : decode cX3_turnTo 8 = .ok (.getfield 24, 3) := by decide +kernel
theorem dX3_turnTo_11 : decode cX3_turnTo 11 = .ok (.iconst 1, 1) := by decide +kernel
theorem dX3_turnTo_12 : decode cX3_turnTo 12 = .ok (.aload_n 0, 1) := by decide +kernel
theorem dX3_turnTo_13 : decode cX3_turnTo 13 = .ok (.getfield 39, 3) := by decide +kernel
theorem dX3_turnTo_16 : decode cX3_turnTo 16 = .ok (.getfield 123, 3) := by decide +kernel
theorem dX3_turnTo_19 : decode cX3_turnTo 19 = .ok (.iload_n 1, 1) := by decide +kernel
theorem dX3_turnTo_20 : decode cX3_turnTo 20 = .ok (.iaload, 1) := by decide +kernel
theorem dX3_turnTo_21 : decode cX3_turnTo 21 = .ok (.iastore, 1) := by decide +kernel
theorem dX3_turnTo_22 : decode cX3_turnTo 22 = .ok (.aload_n 0, 1) := by decide +kernel
theorem dX3_turnTo_23 : decode cX3_turnTo 23 = .ok (.getfield 24, 3) := by decide +kernel
theorem dX3_turnTo_26 : decode cX3_turnTo 26 = .ok (.iconst 2, 1) := by decide +kernel
theorem dX3_turnTo_27 : decode cX3_turnTo 27 = .ok (.aload_n 0, 1) := by decide +kernel
theorem dX3_turnTo_28 : decode cX3_turnTo 28 = .ok (.getfield 39, 3) := by decide +kernel
theorem dX3_turnTo_31 : decode cX3_turnTo 31 = .ok (.getfield 157, 3) := by decide +kernel
theorem dX3_turnTo_34 : decode cX3_turnTo 34 = .ok (.iload_n 1, 1) := by decide +kernel
theorem dX3_turnTo_35 : decode cX3_turnTo 35 = .ok (.iaload, 1) := by decide +kernel
theorem dX3_turnTo_36 : decode cX3_turnTo 36 = .ok (.iastore, 1) := by decide +kernel
theorem dX3_turnTo_37 : decode cX3_turnTo 37 = .ok (.return_, 1) := by decide +kernel
theorem dX4_init_0 : decode cX4_init 0 = .ok (.aload_n 0, 1) := by decide +kernel
theorem dX4_init_1 : decode cX4_init 1 = .ok (.invokespecial 3, 3) := by decide +kernel
theorem dX4_init_4 : decode cX4_init 4 = .ok (.aload_n 0, 1) := by decide +kernel
theorem dX4_init_5 : decode cX4_init 5 = .ok (.iconst 5, 1) := by decide +kernel
theorem dX4_init_6 : decode cX4_init 6 = .ok (.newarray .int, 2) := by decide +kernel
theorem dX4_init_8 : decode cX4_init 8 = .ok (.putfield 9, 3) := by decide +kernel
theorem dX4_init_11 : decode cX4_init 11 = .ok (.aload_n 0, 1) := by decide +kernel
theorem dX4_init_12 : decode cX4_init 12 = .ok (.iconst 5, 1) := by decide +kernel
theorem dX4_init_13 : decode cX4_init 13 = .ok (.newarray .int, 2) := by decide +kernel
theorem dX4_init_15 : decode cX4_init 15 = .ok (.putfield 15, 3) := by decide +kernel
theorem dX4_init_18 : decode cX4_init 18 = .ok (.aload_n 0, 1) := by decide +kernel
theorem dX4_init_19 : decode cX4_init 19 = .ok (.iconst 5, 1) := by decide +kernel
theorem dX4_init_20 : decode cX4_init 20 = .ok (.newarray .int, 2) := by decide +kernel
theorem dX4_init_22 : decode cX4_init 22 = .ok (.putfield 18, 3) := by decide +kernel
theorem dX4_init_25 : decode cX4_init 25 = .ok (.aload_n 0, 1) := by decide +kernel
theorem dX4_init_26 : decode cX4_init 26 = .ok (.iconst 5, 1) := by decide +kernel
theorem dX4_init_27 : decode cX4_init 27 = .ok (.newarray .int, 2) := by decide +kernel
theorem dX4_init_29 : decode cX4_init 29 = .ok (.putfield 21, 3) := by decide +kernel
theorem dX4_init_32 : decode cX4_init 32 = .ok (.aload_n 0, 1) := by decide +kernel
theorem dX4_init_33 : decode cX4_init 33 = .ok (.iconst 5, 1) := by decide +kernel
theorem dX4_init_34 : decode cX4_init 34 = .ok (.newarray .int, 2) := by decide +kernel
theorem dX4_init_36 : decode cX4_init 36 = .ok (.putfield 24, 3) := by decide +kernel
theorem dX4_init_39 : decode cX4_init 39 = .ok (.aload_n 0, 1) := by decide +kernel
theorem dX4_init_40 : decode cX4_init 40 = .ok (.bipush 20, 2) := by decide +kernel
theorem dX4_init_42 : decode cX4_init 42 = .ok (.newarray .int, 2) := by decide +kernel
theorem dX4_init_44 : decode cX4_init 44 = .ok (.putfield 27, 3) := by decide +kernel
theorem dX4_init_47 : decode cX4_init 47 = .ok (.aload_n 0, 1) := by decide +kernel
theorem dX4_init_48 : decode cX4_init 48 = .ok (.bipush 12, 2) := by decide +kernel
theorem dX4_init_50 : decode cX4_init 50 = .ok (.newarray .int, 2) := by decide +kernel
theorem dX4_init_52 : decode cX4_init 52 = .ok (.putfield 30, 3) := by decide +kernel
theorem dX4_init_55 : decode cX4_init 55 = .ok (.aload_n 0, 1) := by decide +kernel
theorem dX4_init_56 : decode cX4_init 56 = .ok (.iconst 0, 1) := by decide +kernel
theorem dX4_init_57 : decode cX4_init 57 = .ok (.putfield 33, 3) := by decide +kernel
theorem dX4_init_60 : decode cX4_init 60 = .ok (.aload_n 0, 1) := by decide +kernel
theorem dX4_init_61 : decode cX4_init 61 = .ok (.bipush 20, 2) := by decide +kernel
theorem dX4_init_63 : decode cX4_init 63 = .ok (.putfield 37, 3) := by decide +kernel
theorem dX4_init_66 : decode cX4_init 66 = .ok (.aload_n 0, 1) := by decide +kernel
theorem dX4_init_67 : decode cX4_init 67 = .ok (.iconst 0, 1) := by decide +kernel
theorem dX4_init_68 : decode cX4_init 68 = .ok (.putfield 40, 3) := by decide +kernel
theorem dX4_init_71 : decode cX4_init 71 = .ok (.aload_n 0, 1) := by decide +kernel
theorem dX4_init_72 : decode cX4_init 72 = .ok (.bipush (-5), 2) := by decide +kernel
theorem dX4_init_74 : decode cX4_init 74 = .ok (.putfield 43, 3) := by decide +kernel
theorem dX4_init_77 : decode cX4_init 77 = .ok (.aload_n 0, 1) := by decide +kernel
theorem dX4_init_78 : decode cX4_init 78 = .ok (.iconst 0, 1) := by decide +kernel
theorem dX4_init_79 : decode cX4_init 79 = .ok (.putfield 46, 3) := by decide +kernel
theorem dX4_init_82 : decode cX4_init 82 = .ok (.aload_n 0, 1) := by decide +kernel
theorem dX4_init_83 : decode cX4_init 83 = .ok (.iconst (-1), 1) := by decide +kernel
theorem dX4_init_84 : decode cX4_init 84 = .ok (.putfield 49, 3) := by decide +kernel
theorem dX4_init_87 : decode cX4_init 87 = .ok (.return_, 1) := by decide +kernel
theorem dX4_becomes_0 : decode cX4_becomes 0 = .ok (.aload_n 1, 1) := by decide +kernel
theorem dX4_becomes_1 : decode cX4_becomes 1 = .ok (.getfield 9, 3) := by decide +kernel
theorem dX4_becomes_4 : decode cX4_becomes 4 = .ok (.iconst 0, 1) := by decide +kernel
theorem dX4_becomes_5 : decode cX4_becomes 5 = .ok (.aload_n 0, 1) := by decide +kernel
theorem dX4_becomes_6 : decode cX4_becomes 6 = .ok (.getfield 9, 3) := by decide +kernel
theorem dX4_becomes_9 : decode cX4_becomes 9 = .ok (.iconst 0, 1) := by decide +kernel
theorem dX4_becomes_10 : decode cX4_becomes 10 = .ok (.iconst 5, 1) := by decide +kernel
theorem dX4_becomes_11 : decode cX4_becomes 11 = .ok (.invokestatic 52, 3) := by decide +kernel
theorem dX4_becomes_14 : decode cX4_becomes 14 = .ok (.aload_n 1, 1) := by decide +kernel
theorem dX4_becomes_15 : decode cX4_becomes 15 = .ok (.getfield 15, 3) := by decide +kernel
theorem dX4_becomes_18 : decode cX4_becomes 18 = .ok (.iconst 0, 1) := by decide +kernel
theorem dX4_becomes_19 : decode cX4_becomes 19 = .ok (.aload_n 0, 1) := by decide +kernel
theorem dX4_becomes_20 : decode cX4_becomes 20 = .ok (.getfield 15, 3) := by decide +kernel
theorem dX4_becomes_23 : decode cX4_becomes 23 = .ok (.iconst 0, 1) := by decide +kernel
theorem dX4_becomes_24 : decode cX4_becomes 24 = .ok (.iconst 5, 1) := by decide +kernel
theorem dX4_becomes_25 : decode cX4_becomes 25 = .ok (.invokestatic 52, 3) := by decide +kernel
theorem dX4_becomes_28 : decode cX4_becomes 28 = .ok (.aload_n 1, 1) := by decide +kernel
theorem dX4_becomes_29 : decode cX4_becomes 29 = .ok (.getfield 18, 3) := by decide +kernel
theorem dX4_becomes_32 : decode cX4_becomes 32 = .ok (.iconst 0, 1) := by decide +kernel
theorem dX4_becomes_33 : decode cX4_becomes 33 = .ok (.aload_n 0, 1) := by decide +kernel
theorem dX4_becomes_34 : decode cX4_becomes 34 = .ok (.getfield 18, 3) := by decide +kernel
theorem dX4_becomes_37 : decode cX4_becomes 37 = .ok (.iconst 0, 1) := by decide +kernel
theorem dX4_becomes_38 : decode cX4_becomes 38 = .ok (.iconst 5, 1) := by decide +kernel
theorem dX4_becomes_39 : decode cX4_becomes 39 = .ok (.invokestatic 52, 3) := by decide +kernel
theorem dX4_becomes_42 : decode cX4_becomes 42 = .ok (.aload_n 1, 1) := by decide +kernel
theorem dX4_becomes_43 : decode cX4_becomes 43 = .ok (.getfield 21, 3) := by decide +kernel
theorem dX4_becomes_46 : decode cX4_becomes 46 = .ok (.iconst 0, 1) := by decide +kernel
theorem dX4_becomes_47 : decode cX4_becomes 47 = .ok (.aload_n 0, 1) := by decide +kernel
theorem dX4_becomes_48 : decode cX4_becomes 48 = .ok (.getfield 21, 3) := by decide +kernel
theorem dX4_becomes_51 : decode cX4_becomes 51 = .ok (.iconst 0, 1) := by decide +kernel
theorem dX4_becomes_52 : decode cX4_becomes 52 = .ok (.iconst 5, 1) := by decide +kernel
theorem dX4_becomes_53 : decode cX4_becomes 53 = .ok (.invokestatic 52, 3) := by decide +kernel
theorem dX4_becomes_56 : decode cX4_becomes 56 = .ok (.aload_n 1, 1) := by decide +kernel
theorem dX4_becomes_57 : decode cX4_becomes 57 = .ok (.getfield 24, 3) := by decide +kernel
theorem dX4_becomes_60 : decode cX4_becomes 60 = .ok (.iconst 0, 1) := by decide +kernel
theorem dX4_becomes_61 : decode cX4_becomes 61 = .ok (.aload_n 0, 1) := by decide +kernel
theorem dX4_becomes_62 : decode cX4_becomes 62 = .ok (.getfield 24, 3) := by decide +kernel
theorem dX4_becomes_65 : decode cX4_becomes 65 = .ok (.iconst 0, 1) := by decide +kernel
theorem dX4_becomes_66 : decode cX4_becomes 66 = .ok (.iconst 5, 1) := by decide +kernel
theorem dX4_becomes_67 : decode cX4_becomes 67 = .ok (.invokestatic 52, 3) := by decide +kernel
theorem dX4_becomes_70 : decode cX4_becomes 70 = .ok (.aload_n 1, 1) := by decide +kernel
theorem dX4_becomes_71 : decode cX4_becomes 71 = .ok (.getfield 27, 3) := by decide +kernel
theorem dX4_becomes_74 : decode cX4_becomes 74 = .ok (.iconst 0, 1) := by decide +kernel
theorem dX4_becomes_75 : decode cX4_becomes 75 = .ok (.aload_n 0, 1) := by decide +kernel
theorem dX4_becomes_76 : decode cX4_becomes 76 = .ok (.getfield 27, 3) := by decide +kernel
theorem dX4_becomes_79 : decode cX4_becomes 79 = .ok (.iconst 0, 1) := by decide +kernel
theorem dX4_becomes_80 : decode cX4_becomes 80 = .ok (.bipush 20, 2) := by decide +kernel
theorem dX4_becomes_82 : decode cX4_becomes 82 = .ok (.invokestatic 52, 3) := by decide +kernel
theorem dX4_becomes_85 : decode cX4_becomes 85 = .ok (.aload_n 1, 1) := by decide +kernel
theorem dX4_becomes_86 : decode cX4_becomes 86 = .ok (.getfield 30, 3) := by decide +kernel
theorem dX4_becomes_89 : decode cX4_becomes 89 = .ok (.iconst 0, 1) := by decide +kernel
theorem dX4_becomes_90 : decode cX4_becomes 90 = .ok (.aload_n 0, 1) := by decide +kernel
theorem dX4_becomes_91 : decode cX4_becomes 91 = .ok (.getfield 30, 3) := by decide +kernel
theorem dX4_becomes_94 : decode cX4_becomes 94 = .ok (.iconst 0, 1) := by decide +kernel
theorem dX4_becomes_95 : decode cX4_becomes 95 = .ok (.bipush 12, 2) := by decide +kernel
theorem dX4_becomes_97 : decode cX4_becomes 97 = .ok (.invokestatic 52, 3) := by decide +kernel
theorem dX4_becomes_100 : decode cX4_becomes 100 = .ok (.aload_n 0, 1) := by decide +kernel
theorem dX4_becomes_101 : decode cX4_becomes 101 = .ok (.aload_n 1, 1) := by decide +kernel
theorem dX4_becomes_102 : decode cX4_becomes 102 = .ok (.getfield 33, 3) := by decide +kernel
theorem dX4_becomes_105 : decode cX4_becomes 105 = .ok (.putfield 33, 3) := by decide +kernel
theorem dX4_becomes_108 : decode cX4_becomes 108 = .ok (.aload_n 0, 1) := by decide +kernel
theorem dX4_becomes_109 : decode cX4_becomes 109 = .ok (.aload_n 1, 1) := by decide +kernel
theorem dX4_becomes_110 : decode cX4_becomes 110 = .ok (.getfield 37, 3) := by decide +kernel
theorem dX4_becomes_113 : decode cX4_becomes 113 = .ok (.putfield 37, 3) := by decide +kernel
theorem dX4_becomes_116 : decode cX4_becomes 116 = .ok (.aload_n 0, 1) := by decide +kernel
theorem dX4_becomes_117 : decode cX4_becomes 117 = .ok (.aload_n 1, 1) := by decide +kernel
theorem dX4_becomes_118 : decode cX4_becomes 118 = .ok (.getfield 40, 3) := by decide +kernel
theorem dX4_becomes_121 : decode cX4_becomes 121 = .ok (.putfield 40, 3) := by decide +kernel
theorem dX4_becomes_124 : decode cX4_becomes 124 = .ok (.aload_n 0, 1) := by decide +kernel
theorem dX4_becomes_125 : decode cX4_becomes 125 = .ok (.aload_n 1, 1) := by decide +kernel
theorem dX4_becomes_126 : decode cX4_becomes 126 = .ok (.getfield 43, 3) := by decide +kernel
theorem dX4_becomes_129 : decode cX4_becomes 129 = .ok (.putfield 43, 3) := by decide +kernel
theorem dX4_becomes_132 : decode cX4_becomes 132 = .ok (.aload_n 0, 1) := by decide +kernel
theorem dX4_becomes_133 : decode cX4_becomes 133 = .ok (.aload_n 1, 1) := by decide +kernel
theorem dX4_becomes_134 : decode cX4_becomes 134 = .ok (.getfield 46, 3) := by decide +kernel
theorem dX4_becomes_137 : decode cX4_becomes 137 = .ok (.putfield 46, 3) := by decide +kernel
theorem dX4_becomes_140 : decode cX4_becomes 140 = .ok (.aload_n 0, 1) := by decide +kernel
theorem dX4_becomes_141 : decode cX4_becomes 141 = .ok (.aload_n 1, 1) := by decide +kernel
theorem dX4_becomes_142 : decode cX4_becomes 142 = .ok (.getfield 49, 3) := by decide +kernel
theorem dX4_becomes_145 : decode cX4_becomes 145 = .ok (.putfield 49, 3) := by decide +kernel
theorem dX4_becomes_148 : decode cX4_becomes 148 = .ok (.return_, 1) := by decide +kernel
theorem dX4_seat_0 : decode cX4_seat 0 = .ok (.aload_n 0, 1) := by decide +kernel
theorem dX4_seat_1 : decode cX4_seat 1 = .ok (.getfield 33, 3) := by decide +kernel
theorem dX4_seat_4 : decode cX4_seat 4 = .ok (.istore 4, 2) := by decide +kernel
theorem dX4_seat_6 : decode cX4_seat 6 = .ok (.iload 4, 2) := by decide +kernel
theorem dX4_seat_8 : decode cX4_seat 8 = .ok (.iconst 5, 1) := by decide +kernel
theorem dX4_seat_9 : decode cX4_seat 9 = .ok (.if_icmp .lt 6, 3) := by decide +kernel
theorem dX4_seat_12 : decode cX4_seat 12 = .ok (.bipush (-4), 2) := by decide +kernel
theorem dX4_seat_14 : decode cX4_seat 14 = .ok (.ireturn, 1) := by decide +kernel
theorem dX4_seat_15 : decode cX4_seat 15 = .ok (.aload_n 0, 1) := by decide +kernel
theorem dX4_seat_16 : decode cX4_seat 16 = .ok (.getfield 9, 3) := by decide +kernel
theorem dX4_seat_19 : decode cX4_seat 19 = .ok (.iload 4, 2) := by decide +kernel
theorem dX4_seat_21 : decode cX4_seat 21 = .ok (.iload_n 1, 1) := by decide +kernel
theorem dX4_seat_22 : decode cX4_seat 22 = .ok (.iastore, 1) := by decide +kernel
theorem dX4_seat_23 : decode cX4_seat 23 = .ok (.aload_n 0, 1) := by decide +kernel
theorem dX4_seat_24 : decode cX4_seat 24 = .ok (.getfield 15, 3) := by decide +kernel
theorem dX4_seat_27 : decode cX4_seat 27 = .ok (.iload 4, 2) := by decide +kernel
theorem dX4_seat_29 : decode cX4_seat 29 = .ok (.iload_n 2, 1) := by decide +kernel
theorem dX4_seat_30 : decode cX4_seat 30 = .ok (.iastore, 1) := by decide +kernel
theorem dX4_seat_31 : decode cX4_seat 31 = .ok (.aload_n 0, 1) := by decide +kernel
theorem dX4_seat_32 : decode cX4_seat 32 = .ok (.getfield 18, 3) := by decide +kernel
theorem dX4_seat_35 : decode cX4_seat 35 = .ok (.iload 4, 2) := by decide +kernel
theorem dX4_seat_37 : decode cX4_seat 37 = .ok (.iload_n 3, 1) := by decide +kernel
theorem dX4_seat_38 : decode cX4_seat 38 = .ok (.iastore, 1) := by decide +kernel
theorem dX4_seat_39 : decode cX4_seat 39 = .ok (.aload_n 0, 1) := by decide +kernel
theorem dX4_seat_40 : decode cX4_seat 40 = .ok (.dup, 1) := by decide +kernel
theorem dX4_seat_41 : decode cX4_seat 41 = .ok (.getfield 33, 3) := by decide +kernel
theorem dX4_seat_44 : decode cX4_seat 44 = .ok (.iconst 1, 1) := by decide +kernel
theorem dX4_seat_45 : decode cX4_seat 45 = .ok (.iadd, 1) := by decide +kernel
theorem dX4_seat_46 : decode cX4_seat 46 = .ok (.putfield 33, 3) := by decide +kernel
theorem dX4_seat_49 : decode cX4_seat 49 = .ok (.iload 4, 2) := by decide +kernel
theorem dX4_seat_51 : decode cX4_seat 51 = .ok (.ireturn, 1) := by decide +kernel
theorem dX4_plainWish_0 : decode cX4_plainWish 0 = .ok (.aload_n 0, 1) := by decide +kernel
theorem dX4_plainWish_1 : decode cX4_plainWish 1 = .ok (.getfield 9, 3) := by decide +kernel
theorem dX4_plainWish_4 : decode cX4_plainWish 4 = .ok (.iload_n 1, 1) := by decide +kernel
theorem dX4_plainWish_5 : decode cX4_plainWish 5 = .ok (.iaload, 1) := by decide +kernel
theorem dX4_plainWish_6 : decode cX4_plainWish 6 = .ok (.tableswitch 130 1 6 #[38, 57, 83, 38, 63, 114], 38) := by decide +kernel
theorem dX4_plainWish_44 : decode cX4_plainWish 44 = .ok (.bipush 9, 2) := by decide +kernel
theorem dX4_plainWish_46 : decode cX4_plainWish 46 = .ok (.aload_n 0, 1) := by decide +kernel
theorem dX4_plainWish_47 : decode cX4_plainWish 47 = .ok (.getfield 18, 3) := by decide +kernel
theorem dX4_plainWish_50 : decode cX4_plainWish 50 = .ok (.iload_n 1, 1) := by decide +kernel
theorem dX4_plainWish_51 : decode cX4_plainWish 51 = .ok (.iaload, 1) := by decide +kernel
theorem dX4_plainWish_52 : decode cX4_plainWish 52 = .ok (.aload_n 0, 1) := by decide +kernel
theorem dX4_plainWish_53 : decode cX4_plainWish 53 = .ok (.getfield 15, 3) := by decide +kernel
theorem dX4_plainWish_56 : decode cX4_plainWish 56 = .ok (.iload_n 1, 1) := by decide +kernel
theorem dX4_plainWish_57 : decode cX4_plainWish 57 = .ok (.iaload, 1) := by decide +kernel
theorem dX4_plainWish_58 : decode cX4_plainWish 58 = .ok (.iadd, 1) := by decide +kernel
theorem dX4_plainWish_59 : decode cX4_plainWish 59 = .ok (.invokestatic 58, 3) := by decide +kernel
theorem dX4_plainWish_62 : decode cX4_plainWish 62 = .ok (.ireturn, 1) := by decide +kernel
theorem dX4_plainWish_63 : decode cX4_plainWish 63 = .ok (.aload_n 0, 1) := by decide +kernel
theorem dX4_plainWish_64 : decode cX4_plainWish 64 = .ok (.iload_n 1, 1) := by decide +kernel
theorem dX4_plainWish_65 : decode cX4_plainWish 65 = .ok (.invokevirtual 64, 3) := by decide +kernel
theorem dX4_plainWish_68 : decode cX4_plainWish 68 = .ok (.ireturn, 1) := by decide +kernel
theorem dX4_plainWish_69 : decode cX4_plainWish 69 = .ok (.aload_n 0, 1) := by decide +kernel
theorem dX4_plainWish_70 : decode cX4_plainWish 70 = .ok (.getfield 15, 3) := by decide +kernel
theorem dX4_plainWish_73 : decode cX4_plainWish 73 = .ok (.iload_n 1, 1) := by decide +kernel
theorem dX4_plainWish_74 : decode cX4_plainWish 74 = .ok (.iaload, 1) := by decide +kernel
theorem dX4_plainWish_75 : decode cX4_plainWish 75 = .ok (.iconst 5, 1) := by decide +kernel
theorem dX4_plainWish_76 : decode cX4_plainWish 76 = .ok (.if_icmp .ge 7, 3) := by decide +kernel
theorem dX4_plainWish_79 : decode cX4_plainWish 79 = .ok (.iconst 0, 1) := by decide +kernel
theorem dX4_plainWish_80 : decode cX4_plainWish 80 = .ok (.goto 8, 3) := by decide +kernel
theorem dX4_plainWish_83 : decode cX4_plainWish 83 = .ok (.aload_n 0, 1) := by decide +kernel
theorem dX4_plainWish_84 : decode cX4_plainWish 84 = .ok (.iload_n 1, 1) := by decide +kernel
theorem dX4_plainWish_85 : decode cX4_plainWish 85 = .ok (.invokevirtual 64, 3) := by decide +kernel
theorem dX4_plainWish_88 : decode cX4_plainWish 88 = .ok (.ireturn, 1) := by decide +kernel
theorem dX4_plainWish_89 : decode cX4_plainWish 89 = .ok (.aload_n 0, 1) := by decide +kernel
theorem dX4_plainWish_90 : decode cX4_plainWish 90 = .ok (.getfield 33, 3) := by decide +kernel
theorem dX4_plainWish_93 : decode cX4_plainWish 93 = .ok (.ifCond .le 20, 3) := by decide +kernel
theorem dX4_plainWish_96 : decode cX4_plainWish 96 = .ok (.aload_n 0, 1) := by decide +kernel
theorem dX4_plainWish_97 : decode cX4_plainWish 97 = .ok (.getfield 40, 3) := by decide +kernel
theorem dX4_plainWish_100 : decode cX4_plainWish 100 = .ok (.aload_n 0, 1) := by decide +kernel
theorem dX4_plainWish_101 : decode cX4_plainWish 101 = .ok (.getfield 33, 3) := by decide +kernel
theorem dX4_plainWish_104 : decode cX4_plainWish 104 = .ok (.irem, 1) := by decide +kernel
theorem dX4_plainWish_105 : decode cX4_plainWish 105 = .ok (.iload_n 1, 1) := by decide +kernel
theorem dX4_plainWish_106 : decode cX4_plainWish 106 = .ok (.if_icmp .ne 7, 3) := by decide +kernel
theorem dX4_plainWish_109 : decode cX4_plainWish 109 = .ok (.iconst 0, 1) := by decide +kernel
theorem dX4_plainWish_110 : decode cX4_plainWish 110 = .ok (.goto 9, 3) := by decide +kernel
theorem dX4_plainWish_113 : decode cX4_plainWish 113 = .ok (.aload_n 0, 1) := by decide +kernel
theorem dX4_plainWish_114 : decode cX4_plainWish 114 = .ok (.getfield 18, 3) := by decide +kernel
theorem dX4_plainWish_117 : decode cX4_plainWish 117 = .ok (.iload_n 1, 1) := by decide +kernel
theorem dX4_plainWish_118 : decode cX4_plainWish 118 = .ok (.iaload, 1) := by decide +kernel
theorem dX4_plainWish_119 : decode cX4_plainWish 119 = .ok (.ireturn, 1) := by decide +kernel
theorem dX4_plainWish_120 : decode cX4_plainWish 120 = .ok (.aload_n 0, 1) := by decide +kernel
theorem dX4_plainWish_121 : decode cX4_plainWish 121 = .ok (.getfield 27, 3) := by decide +kernel
theorem dX4_plainWish_124 : decode cX4_plainWish 124 = .ok (.iload_n 1, 1) := by decide +kernel
theorem dX4_plainWish_125 : decode cX4_plainWish 125 = .ok (.iconst 4, 1) := by decide +kernel
theorem dX4_plainWish_126 : decode cX4_plainWish 126 = .ok (.imul, 1) := by decide +kernel
theorem dX4_plainWish_127 : decode cX4_plainWish 127 = .ok (.aload_n 0, 1) := by decide +kernel
theorem dX4_plainWish_128 : decode cX4_plainWish 128 = .ok (.getfield 40, 3) := by decide +kernel
theorem dX4_plainWish_131 : decode cX4_plainWish 131 = .ok (.iconst 4, 1) := by decide +kernel
theorem dX4_plainWish_132 : decode cX4_plainWish 132 = .ok (.irem, 1) := by decide +kernel
theorem dX4_plainWish_133 : decode cX4_plainWish 133 = .ok (.iadd, 1) := by decide +kernel
theorem dX4_plainWish_134 : decode cX4_plainWish 134 = .ok (.iaload, 1) := by decide +kernel
theorem dX4_plainWish_135 : decode cX4_plainWish 135 = .ok (.ireturn, 1) := by decide +kernel
theorem dX4_plainWish_136 : decode cX4_plainWish 136 = .ok (.aload_n 0, 1) := by decide +kernel
theorem dX4_plainWish_137 : decode cX4_plainWish 137 = .ok (.getfield 18, 3) := by decide +kernel
theorem dX4_plainWish_140 : decode cX4_plainWish 140 = .ok (.iload_n 1, 1) := by decide +kernel
theorem dX4_plainWish_141 : decode cX4_plainWish 141 = .ok (.iaload, 1) := by decide +kernel
theorem dX4_plainWish_142 : decode cX4_plainWish 142 = .ok (.ireturn, 1) := by decide +kernel
theorem dX4_crumbMore_0 : decode cX4_crumbMore 0 = .ok (.iload_n 1, 1) := by decide +kernel
theorem dX4_crumbMore_1 : decode cX4_crumbMore 1 = .ok (.ifCond .le 9, 3) := by decide +kernel
theorem dX4_crumbMore_4 : decode cX4_crumbMore 4 = .ok (.iload_n 1, 1) := by decide +kernel
theorem dX4_crumbMore_5 : decode cX4_crumbMore 5 = .ok (.iconst 1, 1) := by decide +kernel
theorem dX4_crumbMore_6 : decode cX4_crumbMore 6 = .ok (.isub, 1) := by decide +kernel
theorem dX4_crumbMore_7 : decode cX4_crumbMore 7 = .ok (.goto 9, 3) := by decide +kernel
theorem dX4_crumbMore_10 : decode cX4_crumbMore 10 = .ok (.aload_n 0, 1) := by decide +kernel
theorem dX4_crumbMore_11 : decode cX4_crumbMore 11 = .ok (.getfield 33, 3) := by decide +kernel
theorem dX4_crumbMore_14 : decode cX4_crumbMore 14 = .ok (.iconst 1, 1) := by decide +kernel
theorem dX4_crumbMore_15 : decode cX4_crumbMore 15 = .ok (.isub, 1) := by decide +kernel
theorem dX4_crumbMore_16 : decode cX4_crumbMore 16 = .ok (.istore_n 2, 1) := by decide +kernel
theorem dX4_crumbMore_17 : decode cX4_crumbMore 17 = .ok (.bipush 9, 2) := by decide +kernel
theorem dX4_crumbMore_19 : decode cX4_crumbMore 19 = .ok (.aload_n 0, 1) := by decide +kernel
theorem dX4_crumbMore_20 : decode cX4_crumbMore 20 = .ok (.getfield 21, 3) := by decide +kernel
theorem dX4_crumbMore_23 : decode cX4_crumbMore 23 = .ok (.iconst 0, 1) := by decide +kernel
theorem dX4_crumbMore_24 : decode cX4_crumbMore 24 = .ok (.iload_n 2, 1) := by decide +kernel
theorem dX4_crumbMore_25 : decode cX4_crumbMore 25 = .ok (.invokestatic 68, 3) := by decide +kernel
theorem dX4_crumbMore_28 : decode cX4_crumbMore 28 = .ok (.iaload, 1) := by decide +kernel
theorem dX4_crumbMore_29 : decode cX4_crumbMore 29 = .ok (.iconst 1, 1) := by decide +kernel
theorem dX4_crumbMore_30 : decode cX4_crumbMore 30 = .ok (.iadd, 1) := by decide +kernel
theorem dX4_crumbMore_31 : decode cX4_crumbMore 31 = .ok (.invokestatic 58, 3) := by decide +kernel
theorem dX4_crumbMore_34 : decode cX4_crumbMore 34 = .ok (.ireturn, 1) := by decide +kernel
theorem dX4_gladTogether_0 : decode cX4_gladTogether 0 = .ok (.iconst 0, 1) := by decide +kernel
theorem dX4_gladTogether_1 : decode cX4_gladTogether 1 = .ok (.istore_n 1, 1) := by decide +kernel
theorem dX4_gladTogether_2 : decode cX4_gladTogether 2 = .ok (.iconst 0, 1) := by decide +kernel
theorem dX4_gladTogether_3 : decode cX4_gladTogether 3 = .ok (.istore_n 2, 1) := by decide +kernel
theorem dX4_gladTogether_4 : decode cX4_gladTogether 4 = .ok (.iload_n 2, 1) := by decide +kernel
theorem dX4_gladTogether_5 : decode cX4_gladTogether 5 = .ok (.aload_n 0, 1) := by decide +kernel
theorem dX4_gladTogether_6 : decode cX4_gladTogether 6 = .ok (.getfield 33, 3) := by decide +kernel
theorem dX4_gladTogether_9 : decode cX4_gladTogether 9 = .ok (.if_icmp .ge 18, 3) := by decide +kernel
theorem dX4_gladTogether_12 : decode cX4_gladTogether 12 = .ok (.iload_n 1, 1) := by decide +kernel
theorem dX4_gladTogether_13 : decode cX4_gladTogether 13 = .ok (.aload_n 0, 1) := by decide +kernel
theorem dX4_gladTogether_14 : decode cX4_gladTogether 14 = .ok (.getfield 24, 3) := by decide +kernel
theorem dX4_gladTogether_17 : decode cX4_gladTogether 17 = .ok (.iload_n 2, 1) := by decide +kernel
theorem dX4_gladTogether_18 : decode cX4_gladTogether 18 = .ok (.iaload, 1) := by decide +kernel
theorem dX4_gladTogether_19 : decode cX4_gladTogether 19 = .ok (.iadd, 1) := by decide +kernel
theorem dX4_gladTogether_20 : decode cX4_gladTogether 20 = .ok (.istore_n 1, 1) := by decide +kernel
theorem dX4_gladTogether_21 : decode cX4_gladTogether 21 = .ok (.iinc 2 1, 3) := by decide +kernel
theorem dX4_gladTogether_24 : decode cX4_gladTogether 24 = .ok (.goto (-20), 3) := by decide +kernel
theorem dX4_gladTogether_27 : decode cX4_gladTogether 27 = .ok (.iload_n 1, 1) := by decide +kernel
theorem dX4_gladTogether_28 : decode cX4_gladTogether 28 = .ok (.ireturn, 1) := by decide +kernel
theorem dX4_looksLike_0 : decode cX4_looksLike 0 = .ok (.aload_n 0, 1) := by decide +kernel
theorem dX4_looksLike_1 : decode cX4_looksLike 1 = .ok (.getfield 37, 3) := by decide +kernel
theorem dX4_looksLike_4 : decode cX4_looksLike 4 = .ok (.aload_n 1, 1) := by decide +kernel
theorem dX4_looksLike_5 : decode cX4_looksLike 5 = .ok (.getfield 37, 3) := by decide +kernel
theorem dX4_looksLike_8 : decode cX4_looksLike 8 = .ok (.if_icmp .ne 7, 3) := by decide +kernel
theorem dX4_looksLike_11 : decode cX4_looksLike 11 = .ok (.iconst 1, 1) := by decide +kernel
theorem dX4_looksLike_12 : decode cX4_looksLike 12 = .ok (.goto 4, 3) := by decide +kernel
theorem dX4_looksLike_15 : decode cX4_looksLike 15 = .ok (.iconst 0, 1) := by decide +kernel
theorem dX4_looksLike_16 : decode cX4_looksLike 16 = .ok (.istore_n 2, 1) := by decide +kernel
theorem dX4_looksLike_17 : decode cX4_looksLike 17 = .ok (.iconst 0, 1) := by decide +kernel
theorem dX4_looksLike_18 : decode cX4_looksLike 18 = .ok (.istore_n 3, 1) := by decide +kernel
theorem dX4_looksLike_19 : decode cX4_looksLike 19 = .ok (.iload_n 3, 1) := by decide +kernel
theorem dX4_looksLike_20 : decode cX4_looksLike 20 = .ok (.aload_n 0, 1) := by decide +kernel
theorem dX4_looksLike_21 : decode cX4_looksLike 21 = .ok (.getfield 33, 3) := by decide +kernel
theorem dX4_looksLike_24 : decode cX4_looksLike 24 = .ok (.if_icmp .ge 34, 3) := by decide +kernel
theorem dX4_looksLike_27 : decode cX4_looksLike 27 = .ok (.iload_n 2, 1) := by decide +kernel
theorem dX4_looksLike_28 : decode cX4_looksLike 28 = .ok (.ifCond .eq 30, 3) := by decide +kernel
theorem dX4_looksLike_31 : decode cX4_looksLike 31 = .ok (.aload_n 0, 1) := by decide +kernel
theorem dX4_looksLike_32 : decode cX4_looksLike 32 = .ok (.getfield 21, 3) := by decide +kernel
theorem dX4_looksLike_35 : decode cX4_looksLike 35 = .ok (.iload_n 3, 1) := by decide +kernel
theorem dX4_looksLike_36 : decode cX4_looksLike 36 = .ok (.iaload, 1) := by decide +kernel
theorem dX4_looksLike_37 : decode cX4_looksLike 37 = .ok (.aload_n 1, 1) := by decide +kernel
theorem dX4_looksLike_38 : decode cX4_looksLike 38 = .ok (.getfield 21, 3) := by decide +kernel
theorem dX4_looksLike_41 : decode cX4_looksLike 41 = .ok (.iload_n 3, 1) := by decide +kernel
theorem dX4_looksLike_42 : decode cX4_looksLike 42 = .ok (.iaload, 1) := by decide +kernel
theorem dX4_looksLike_43 : decode cX4_looksLike 43 = .ok (.if_icmp .ne 7, 3) := by decide +kernel
theorem dX4_looksLike_46 : decode cX4_looksLike 46 = .ok (.iconst 1, 1) := by decide +kernel
theorem dX4_looksLike_47 : decode cX4_looksLike 47 = .ok (.goto 4, 3) := by decide +kernel
theorem dX4_looksLike_50 : decode cX4_looksLike 50 = .ok (.iconst 0, 1) := by decide +kernel
theorem dX4_looksLike_51 : decode cX4_looksLike 51 = .ok (.istore_n 2, 1) := by decide +kernel
theorem dX4_looksLike_52 : decode cX4_looksLike 52 = .ok (.iinc 3 1, 3) := by decide +kernel
theorem dX4_looksLike_55 : decode cX4_looksLike 55 = .ok (.goto (-36), 3) := by decide +kernel
theorem dX4_looksLike_58 : decode cX4_looksLike 58 = .ok (.iload_n 2, 1) := by decide +kernel
theorem dX4_looksLike_59 : decode cX4_looksLike 59 = .ok (.ireturn, 1) := by decide +kernel
theorem dX5_init_0 : decode cX5_init 0 = .ok (.aload_n 0, 1) := by decide +kernel
theorem dX5_init_1 : decode cX5_init 1 = .ok (.invokespecial 3, 3) := by decide +kernel
theorem dX5_init_4 : decode cX5_init 4 = .ok (.aload_n 0, 1) := by decide +kernel
theorem dX5_init_5 : decode cX5_init 5 = .ok (.bipush 60, 2) := by decide +kernel
theorem dX5_init_7 : decode cX5_init 7 = .ok (.newarray .long, 2) := by decide +kernel
theorem dX5_init_9 : decode cX5_init 9 = .ok (.putfield 9, 3) := by decide +kernel
theorem dX5_init_12 : decode cX5_init 12 = .ok (.aload_n 0, 1) := by decide +kernel
theorem dX5_init_13 : decode cX5_init 13 = .ok (.iconst (-1), 1) := by decide +kernel
theorem dX5_init_14 : decode cX5_init 14 = .ok (.putfield 15, 3) := by decide +kernel
theorem dX5_init_17 : decode cX5_init 17 = .ok (.aload_n 0, 1) := by decide +kernel
theorem dX5_init_18 : decode cX5_init 18 = .ok (.iconst 0, 1) := by decide +kernel
theorem dX5_init_19 : decode cX5_init 19 = .ok (.putfield 19, 3) := by decide +kernel
theorem dX5_init_22 : decode cX5_init 22 = .ok (.return_, 1) := by decide +kernel
theorem dX5_becomesEmpty_0 : decode cX5_becomesEmpty 0 = .ok (.aload_n 0, 1) := by decide +kernel
theorem dX5_becomesEmpty_1 : decode cX5_becomesEmpty 1 = .ok (.iload_n 1, 1) := by decide +kernel
theorem dX5_becomesEmpty_2 : decode cX5_becomesEmpty 2 = .ok (.putfield 15, 3) := by decide +kernel
theorem dX5_becomesEmpty_5 : decode cX5_becomesEmpty 5 = .ok (.aload_n 0, 1) := by decide +kernel
theorem dX5_becomesEmpty_6 : decode cX5_becomesEmpty 6 = .ok (.iload_n 2, 1) := by decide +kernel
theorem dX5_becomesEmpty_7 : decode cX5_becomesEmpty 7 = .ok (.putfield 19, 3) := by decide +kernel
theorem dX5_becomesEmpty_10 : decode cX5_becomesEmpty 10 = .ok (.aload_n 0, 1) := by decide +kernel
theorem dX5_becomesEmpty_11 : decode cX5_becomesEmpty 11 = .ok (.getfield 9, 3) := by decide +kernel
theorem dX5_becomesEmpty_14 : decode cX5_becomesEmpty 14 = .ok (.lconst 0, 1) := by decide +kernel
theorem dX5_becomesEmpty_15 : decode cX5_becomesEmpty 15 = .ok (.invokestatic 22, 3) := by decide +kernel
theorem dX5_becomesEmpty_18 : decode cX5_becomesEmpty 18 = .ok (.return_, 1) := by decide +kernel
theorem dX5_has_0 : decode cX5_has 0 = .ok (.iload_n 1, 1) := by decide +kernel
theorem dX5_has_1 : decode cX5_has 1 = .ok (.ifCond .lt 15, 3) := by decide +kernel
theorem dX5_has_4 : decode cX5_has 4 = .ok (.iload_n 1, 1) := by decide +kernel
theorem dX5_has_5 : decode cX5_has 5 = .ok (.aload_n 0, 1) := by decide +kernel
theorem dX5_has_6 : decode cX5_has 6 = .ok (.getfield 19, 3) := by decide +kernel
theorem dX5_has_9 : decode cX5_has 9 = .ok (.if_icmp .ge 7, 3) := by decide +kernel
theorem dX5_has_12 : decode cX5_has 12 = .ok (.iconst 1, 1) := by decide +kernel
theorem dX5_has_13 : decode cX5_has 13 = .ok (.goto 4, 3) := by decide +kernel
theorem dX5_has_16 : decode cX5_has 16 = .ok (.iconst 0, 1) := by decide +kernel
theorem dX5_has_17 : decode cX5_has 17 = .ok (.ireturn, 1) := by decide +kernel
theorem dX5_hasStretch_0 : decode cX5_hasStretch 0 = .ok (.iload_n 2, 1) := by decide +kernel
theorem dX5_hasStretch_1 : decode cX5_hasStretch 1 = .ok (.ifCond .lt 29, 3) := by decide +kernel
theorem dX5_hasStretch_4 : decode cX5_hasStretch 4 = .ok (.iload_n 2, 1) := by decide +kernel
theorem dX5_hasStretch_5 : decode cX5_hasStretch 5 = .ok (.aload_n 0, 1) := by decide +kernel
theorem dX5_hasStretch_6 : decode cX5_hasStretch 6 = .ok (.getfield 19, 3) := by decide +kernel
theorem dX5_hasStretch_9 : decode cX5_hasStretch 9 = .ok (.if_icmp .gt 21, 3) := by decide +kernel
theorem dX5_hasStretch_12 : decode cX5_hasStretch 12 = .ok (.iload_n 1, 1) := by decide +kernel
theorem dX5_hasStretch_13 : decode cX5_hasStretch 13 = .ok (.ifCond .lt 17, 3) := by decide +kernel
theorem dX5_hasStretch_16 : decode cX5_hasStretch 16 = .ok (.iload_n 1, 1) := by decide +kernel
theorem dX5_hasStretch_17 : decode cX5_hasStretch 17 = .ok (.aload_n 0, 1) := by decide +kernel
theorem dX5_hasStretch_18 : decode cX5_hasStretch 18 = .ok (.getfield 19, 3) := by decide +kernel
theorem dX5_hasStretch_21 : decode cX5_hasStretch 21 = .ok (.iload_n 2, 1) := by decide +kernel
theorem dX5_hasStretch_22 : decode cX5_hasStretch 22 = .ok (.isub, 1) := by decide +kernel
theorem dX5_hasStretch_23 : decode cX5_hasStretch 23 = .ok (.if_icmp .gt 7, 3) := by decide +kernel
theorem dX5_hasStretch_26 : decode cX5_hasStretch 26 = .ok (.iconst 1, 1) := by decide +kernel
theorem dX5_hasStretch_27 : decode cX5_hasStretch 27 = .ok (.goto 4, 3) := by decide +kernel
theorem dX5_hasStretch_30 : decode cX5_hasStretch 30 = .ok (.iconst 0, 1) := by decide +kernel
theorem dX5_hasStretch_31 : decode cX5_hasStretch 31 = .ok (.ireturn, 1) := by decide +kernel
theorem dX5_put_0 : decode cX5_put 0 = .ok (.aload_n 0, 1) := by decide +kernel
theorem dX5_put_1 : decode cX5_put 1 = .ok (.iload_n 1, 1) := by decide +kernel
theorem dX5_put_2 : decode cX5_put 2 = .ok (.invokevirtual 28, 3) := by decide +kernel
theorem dX5_put_5 : decode cX5_put 5 = .ok (.ifCond .ne 4, 3) := by decide +kernel
theorem dX5_put_8 : decode cX5_put 8 = .ok (.return_, 1) := by decide +kernel
theorem dX5_put_9 : decode cX5_put 9 = .ok (.aload_n 0, 1) := by decide +kernel
theorem dX5_put_10 : decode cX5_put 10 = .ok (.getfield 15, 3) := by decide +kernel
theorem dX5_put_13 : decode cX5_put 13 = .ok (.tableswitch 93 0 4 #[35, 48, 61, 93, 73], 35) := by decide +kernel
theorem dX5_put_48 : decode cX5_put 48 = .ok (.aload_n 0, 1) := by decide +kernel
theorem dX5_put_49 : decode cX5_put 49 = .ok (.getfield 9, 3) := by decide +kernel
theorem dX5_put_52 : decode cX5_put 52 = .ok (.iload_n 1, 1) := by decide +kernel
theorem dX5_put_53 : decode cX5_put 53 = .ok (.lload_n 2, 1) := by decide +kernel
theorem dX5_put_54 : decode cX5_put 54 = .ok (.l2i, 1) := by decide +kernel
theorem dX5_put_55 : decode cX5_put 55 = .ok (.i2b, 1) := by decide +kernel
theorem dX5_put_56 : decode cX5_put 56 = .ok (.i2l, 1) := by decide +kernel
theorem dX5_put_57 : decode cX5_put 57 = .ok (.lastore, 1) := by decide +kernel
theorem dX5_put_58 : decode cX5_put 58 = .ok (.goto 55, 3) := by decide +kernel
theorem dX5_put_61 : decode cX5_put 61 = .ok (.aload_n 0, 1) := by decide +kernel
theorem dX5_put_62 : decode cX5_put 62 = .ok (.getfield 9, 3) := by decide +kernel
theorem dX5_put_65 : decode cX5_put 65 = .ok (.iload_n 1, 1) := by decide +kernel
theorem dX5_put_66 : decode cX5_put 66 = .ok (.lload_n 2, 1) := by decide +kernel
theorem dX5_put_67 : decode cX5_put 67 = .ok (.l2i, 1) := by decide +kernel
theorem dX5_put_68 : decode cX5_put 68 = .ok (.i2s, 1) := by decide +kernel
theorem dX5_put_69 : decode cX5_put 69 = .ok (.i2l, 1) := by decide +kernel
theorem dX5_put_70 : decode cX5_put 70 = .ok (.lastore, 1) := by decide +kernel
theorem dX5_put_71 : decode cX5_put 71 = .ok (.goto 42, 3) := by decide +kernel
theorem dX5_put_74 : decode cX5_put 74 = .ok (.aload_n 0, 1) := by decide +kernel
theorem dX5_put_75 : decode cX5_put 75 = .ok (.getfield 9, 3) := by decide +kernel
theorem dX5_put_78 : decode cX5_put 78 = .ok (.iload_n 1, 1) := by decide +kernel
theorem dX5_put_79 : decode cX5_put 79 = .ok (.lload_n 2, 1) := by decide +kernel
theorem dX5_put_80 : decode cX5_put 80 = .ok (.l2i, 1) := by decide +kernel
theorem dX5_put_81 : decode cX5_put 81 = .ok (.i2l, 1) := by decide +kernel
theorem dX5_put_82 : decode cX5_put 82 = .ok (.lastore, 1) := by decide +kernel
theorem dX5_put_83 : decode cX5_put 83 = .ok (.goto 30, 3) := by decide +kernel
theorem dX5_put_86 : decode cX5_put 86 = .ok (.aload_n 0, 1) := by decide +kernel
theorem dX5_put_87 : decode cX5_put 87 = .ok (.getfield 9, 3) := by decide +kernel
theorem dX5_put_90 : decode cX5_put 90 = .ok (.iload_n 1, 1) := by decide +kernel
theorem dX5_put_91 : decode cX5_put 91 = .ok (.lload_n 2, 1) := by decide +kernel
theorem dX5_put_92 : decode cX5_put 92 = .ok (.lconst 0, 1) := by decide +kernel
theorem dX5_put_93 : decode cX5_put 93 = .ok (.lcmp, 1) := by decide +kernel
theorem dX5_put_94 : decode cX5_put 94 = .ok (.ifCond .eq 7, 3) := by decide +kernel
theorem dX5_put_97 : decode cX5_put 97 = .ok (.lconst 1, 1) := by decide +kernel
theorem dX5_put_98 : decode cX5_put 98 = .ok (.goto 4, 3) := by decide +kernel
theorem dX5_put_101 : decode cX5_put 101 = .ok (.lconst 0, 1) := by decide +kernel
theorem dX5_put_102 : decode cX5_put 102 = .ok (.lastore, 1) := by decide +kernel
theorem dX5_put_103 : decode cX5_put 103 = .ok (.goto 10, 3) := by decide +kernel
theorem dX5_put_106 : decode cX5_put 106 = .ok (.aload_n 0, 1) := by decide +kernel
theorem dX5_put_107 : decode cX5_put 107 = .ok (.getfield 9, 3) := by decide +kernel
theorem dX5_put_110 : decode cX5_put 110 = .ok (.iload_n 1, 1) := by decide +kernel
theorem dX5_put_111 : decode cX5_put 111 = .ok (.lload_n 2, 1) := by decide +kernel
theorem dX5_put_112 : decode cX5_put 112 = .ok (.lastore, 1) := by decide +kernel
theorem dX5_put_113 : decode cX5_put 113 = .ok (.return_, 1) := by decide +kernel
theorem dX6_init_0 : decode cX6_init 0 = .ok (.aload_n 0, 1) := by decide +kernel
theorem dX6_init_1 : decode cX6_init 1 = .ok (.invokespecial 3, 3) := by decide +kernel
theorem dX6_init_4 : decode cX6_init 4 = .ok (.aload_n 0, 1) := by decide +kernel
theorem dX6_init_5 : decode cX6_init 5 = .ok (.new 9, 3) := by decide +kernel
theorem dX6_init_8 : decode cX6_init 8 = .ok (.dup, 1) := by decide +kernel
theorem dX6_init_9 : decode cX6_init 9 = .ok (.invokespecial 11, 3) := by decide +kernel
theorem dX6_init_12 : decode cX6_init 12 = .ok (.putfield 12, 3) := by decide +kernel
theorem dX6_init_15 : decode cX6_init 15 = .ok (.aload_n 0, 1) := by decide +kernel
theorem dX6_init_16 : decode cX6_init 16 = .ok (.new 9, 3) := by decide +kernel
theorem dX6_init_19 : decode cX6_init 19 = .ok (.dup, 1) := by decide +kernel
theorem dX6_init_20 : decode cX6_init 20 = .ok (.invokespecial 11, 3) := by decide +kernel
theorem dX6_init_23 : decode cX6_init 23 = .ok (.putfield 18, 3) := by decide +kernel
theorem dX6_init_26 : decode cX6_init 26 = .ok (.aload_n 0, 1) := by decide +kernel
theorem dX6_init_27 : decode cX6_init 27 = .ok (.new 9, 3) := by decide +kernel
theorem dX6_init_30 : decode cX6_init 30 = .ok (.dup, 1) := by decide +kernel
theorem dX6_init_31 : decode cX6_init 31 = .ok (.invokespecial 11, 3) := by decide +kernel
theorem dX6_init_34 : decode cX6_init 34 = .ok (.putfield 21, 3) := by decide +kernel
theorem dX6_init_37 : decode cX6_init 37 = .ok (.aload_n 0, 1) := by decide +kernel
theorem dX6_init_38 : decode cX6_init 38 = .ok (.new 24, 3) := by decide +kernel
theorem dX6_init_41 : decode cX6_init 41 = .ok (.dup, 1) := by decide +kernel
theorem dX6_init_42 : decode cX6_init 42 = .ok (.invokespecial 26, 3) := by decide +kernel
theorem dX6_init_45 : decode cX6_init 45 = .ok (.putfield 27, 3) := by decide +kernel
theorem dX6_init_48 : decode cX6_init 48 = .ok (.aload_n 0, 1) := by decide +kernel
theorem dX6_init_49 : decode cX6_init 49 = .ok (.bipush 6, 2) := by decide +kernel
theorem dX6_init_51 : decode cX6_init 51 = .ok (.anewarray 24, 3) := by decide +kernel
theorem dX6_init_54 : decode cX6_init 54 = .ok (.putfield 31, 3) := by decide +kernel
theorem dX6_init_57 : decode cX6_init 57 = .ok (.aload_n 0, 1) := by decide +kernel
theorem dX6_init_58 : decode cX6_init 58 = .ok (.new 35, 3) := by decide +kernel
theorem dX6_init_61 : decode cX6_init 61 = .ok (.dup, 1) := by decide +kernel
theorem dX6_init_62 : decode cX6_init 62 = .ok (.invokespecial 37, 3) := by decide +kernel
theorem dX6_init_65 : decode cX6_init 65 = .ok (.putfield 38, 3) := by decide +kernel
theorem dX6_init_68 : decode cX6_init 68 = .ok (.aload_n 0, 1) := by decide +kernel
theorem dX6_init_69 : decode cX6_init 69 = .ok (.new 42, 3) := by decide +kernel
theorem dX6_init_72 : decode cX6_init 72 = .ok (.dup, 1) := by decide +kernel
theorem dX6_init_73 : decode cX6_init 73 = .ok (.invokespecial 44, 3) := by decide +kernel
theorem dX6_init_76 : decode cX6_init 76 = .ok (.putfield 45, 3) := by decide +kernel
theorem dX6_init_79 : decode cX6_init 79 = .ok (.aload_n 0, 1) := by decide +kernel
theorem dX6_init_80 : decode cX6_init 80 = .ok (.new 49, 3) := by decide +kernel
theorem dX6_init_83 : decode cX6_init 83 = .ok (.dup, 1) := by decide +kernel
theorem dX6_init_84 : decode cX6_init 84 = .ok (.invokespecial 51, 3) := by decide +kernel
theorem dX6_init_87 : decode cX6_init 87 = .ok (.putfield 52, 3) := by decide +kernel
theorem dX6_init_90 : decode cX6_init 90 = .ok (.aload_n 0, 1) := by decide +kernel
theorem dX6_init_91 : decode cX6_init 91 = .ok (.bipush 6, 2) := by decide +kernel
theorem dX6_init_93 : decode cX6_init 93 = .ok (.anewarray 56, 3) := by decide +kernel
theorem dX6_init_96 : decode cX6_init 96 = .ok (.putfield 58, 3) := by decide +kernel
theorem dX6_init_99 : decode cX6_init 99 = .ok (.aload_n 0, 1) := by decide +kernel
theorem dX6_init_100 : decode cX6_init 100 = .ok (.iconst 5, 1) := by decide +kernel
theorem dX6_init_101 : decode cX6_init 101 = .ok (.newarray .int, 2) := by decide +kernel
theorem dX6_init_103 : decode cX6_init 103 = .ok (.putfield 62, 3) := by decide +kernel
theorem dX6_init_106 : decode cX6_init 106 = .ok (.aload_n 0, 1) := by decide +kernel
theorem dX6_init_107 : decode cX6_init 107 = .ok (.iconst 5, 1) := by decide +kernel
theorem dX6_init_108 : decode cX6_init 108 = .ok (.newarray .int, 2) := by decide +kernel
theorem dX6_init_110 : decode cX6_init 110 = .ok (.putfield 66, 3) := by decide +kernel
theorem dX6_init_113 : decode cX6_init 113 = .ok (.aload_n 0, 1) := by decide +kernel
theorem dX6_init_114 : decode cX6_init 114 = .ok (.iconst 0, 1) := by decide +kernel
theorem dX6_init_115 : decode cX6_init 115 = .ok (.putfield 69, 3) := by decide +kernel
theorem dX6_init_118 : decode cX6_init 118 = .ok (.aload_n 0, 1) := by decide +kernel
theorem dX6_init_119 : decode cX6_init 119 = .ok (.iconst 0, 1) := by decide +kernel
theorem dX6_init_120 : decode cX6_init 120 = .ok (.putfield 73, 3) := by decide +kernel
theorem dX6_init_123 : decode cX6_init 123 = .ok (.iconst 0, 1) := by decide +kernel
theorem dX6_init_124 : decode cX6_init 124 = .ok (.istore_n 1, 1) := by decide +kernel
theorem dX6_init_125 : decode cX6_init 125 = .ok (.iload_n 1, 1) := by decide +kernel
theorem dX6_init_126 : decode cX6_init 126 = .ok (.bipush 6, 2) := by decide +kernel
theorem dX6_init_128 : decode cX6_init 128 = .ok (.if_icmp .ge 22, 3) := by decide +kernel
theorem dX6_init_131 : decode cX6_init 131 = .ok (.aload_n 0, 1) := by decide +kernel
theorem dX6_init_132 : decode cX6_init 132 = .ok (.getfield 31, 3) := by decide +kernel
theorem dX6_init_135 : decode cX6_init 135 = .ok (.iload_n 1, 1) := by decide +kernel
theorem dX6_init_136 : decode cX6_init 136 = .ok (.new 24, 3) := by decide +kernel
theorem dX6_init_139 : decode cX6_init 139 = .ok (.dup, 1) := by decide +kernel
theorem dX6_init_140 : decode cX6_init 140 = .ok (.invokespecial 26, 3) := by decide +kernel
theorem dX6_init_143 : decode cX6_init 143 = .ok (.aastore, 1) := by decide +kernel
theorem dX6_init_144 : decode cX6_init 144 = .ok (.iinc 1 1, 3) := by decide +kernel
theorem dX6_init_147 : decode cX6_init 147 = .ok (.goto (-22), 3) := by decide +kernel
theorem dX6_init_150 : decode cX6_init 150 = .ok (.iconst 0, 1) := by decide +kernel
theorem dX6_init_151 : decode cX6_init 151 = .ok (.istore_n 1, 1) := by decide +kernel
theorem dX6_init_152 : decode cX6_init 152 = .ok (.iload_n 1, 1) := by decide +kernel
theorem dX6_init_153 : decode cX6_init 153 = .ok (.bipush 6, 2) := by decide +kernel
theorem dX6_init_155 : decode cX6_init 155 = .ok (.if_icmp .ge 22, 3) := by decide +kernel
theorem dX6_init_158 : decode cX6_init 158 = .ok (.aload_n 0, 1) := by decide +kernel
theorem dX6_init_159 : decode cX6_init 159 = .ok (.getfield 58, 3) := by decide +kernel
theorem dX6_init_162 : decode cX6_init 162 = .ok (.iload_n 1, 1) := by decide +kernel
theorem dX6_init_163 : decode cX6_init 163 = .ok (.new 56, 3) := by decide +kernel
theorem dX6_init_166 : decode cX6_init 166 = .ok (.dup, 1) := by decide +kernel
theorem dX6_init_167 : decode cX6_init 167 = .ok (.invokespecial 77, 3) := by decide +kernel
theorem dX6_init_170 : decode cX6_init 170 = .ok (.aastore, 1) := by decide +kernel
theorem dX6_init_171 : decode cX6_init 171 = .ok (.iinc 1 1, 3) := by decide +kernel
theorem dX6_init_174 : decode cX6_init 174 = .ok (.goto (-22), 3) := by decide +kernel
theorem dX6_init_177 : decode cX6_init 177 = .ok (.return_, 1) := by decide +kernel
theorem dX6_eater_0 : decode cX6_eater 0 = .ok (.iload_n 1, 1) := by decide +kernel
theorem dX6_eater_1 : decode cX6_eater 1 = .ok (.bipush 6, 2) := by decide +kernel
