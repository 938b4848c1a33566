theorem d_Mo_enters_68 : decode b_Mo_enters 68 = .ok (.aload_n 0, 1) := by decide +kernel
theorem d_Mo_enters_69 : decode b_Mo_enters 69 = .ok (.getfield 164, 3) := by decide +kernel
theorem d_Mo_enters_72 : decode b_Mo_enters 72 = .ok (.iastore, 1) := by decide +kernel
theorem d_Mo_enters_73 : decode b_Mo_enters 73 = .ok (.return_, 1) := by decide +kernel
theorem d_Mo_step_0 : decode b_Mo_step 0 = .ok (.aload_n 0, 1) := by decide +kernel
theorem d_Mo_step_1 : decode b_Mo_step 1 = .ok (.getfield 164, 3) := by decide +kernel
theorem d_Mo_step_4 : decode b_Mo_step 4 = .ok (.iconst 1, 1) := by decide +kernel
theorem d_Mo_step_5 : decode b_Mo_step 5 = .ok (.isub, 1) := by decide +kernel
theorem d_Mo_step_6 : decode b_Mo_step 6 = .ok (.istore_n 1, 1) := by decide +kernel
theorem d_Mo_step_7 : decode b_Mo_step 7 = .ok (.sipush 128, 3) := by decide +kernel
theorem d_Mo_step_10 : decode b_Mo_step 10 = .ok (.aload_n 0, 1) := by decide +kernel
theorem d_Mo_step_11 : decode b_Mo_step 11 = .ok (.getfield 80, 3) := by decide +kernel
theorem d_Mo_step_14 : decode b_Mo_step 14 = .ok (.iload_n 1, 1) := by decide +kernel
theorem d_Mo_step_15 : decode b_Mo_step 15 = .ok (.iaload, 1) := by decide +kernel
theorem d_Mo_step_16 : decode b_Mo_step 16 = .ok (.imul, 1) := by decide +kernel
theorem d_Mo_step_17 : decode b_Mo_step 17 = .ok (.aload_n 0, 1) := by decide +kernel
theorem d_Mo_step_18 : decode b_Mo_step 18 = .ok (.getfield 86, 3) := by decide +kernel
theorem d_Mo_step_21 : decode b_Mo_step 21 = .ok (.iload_n 1, 1) := by decide +kernel
theorem d_Mo_step_22 : decode b_Mo_step 22 = .ok (.iaload, 1) := by decide +kernel
theorem d_Mo_step_23 : decode b_Mo_step 23 = .ok (.iadd, 1) := by decide +kernel
theorem d_Mo_step_24 : decode b_Mo_step 24 = .ok (.istore_n 2, 1) := by decide +kernel
theorem d_Mo_step_25 : decode b_Mo_step 25 = .ok (.aload_n 0, 1) := by decide +kernel
theorem d_Mo_step_26 : decode b_Mo_step 26 = .ok (.getfield 32, 3) := by decide +kernel
theorem d_Mo_step_29 : decode b_Mo_step 29 = .ok (.iload_n 2, 1) := by decide +kernel
theorem d_Mo_step_30 : decode b_Mo_step 30 = .ok (.iaload, 1) := by decide +kernel
theorem d_Mo_step_31 : decode b_Mo_step 31 = .ok (.istore_n 3, 1) := by decide +kernel
theorem d_Mo_step_32 : decode b_Mo_step 32 = .ok (.aload_n 0, 1) := by decide +kernel
theorem d_Mo_step_33 : decode b_Mo_step 33 = .ok (.getfield 83, 3) := by decide +kernel
theorem d_Mo_step_36 : decode b_Mo_step 36 = .ok (.iload_n 1, 1) := by decide +kernel
theorem d_Mo_step_37 : decode b_Mo_step 37 = .ok (.aload_n 0, 1) := by decide +kernel
theorem d_Mo_step_38 : decode b_Mo_step 38 = .ok (.getfield 86, 3) := by decide +kernel
theorem d_Mo_step_41 : decode b_Mo_step 41 = .ok (.iload_n 1, 1) := by decide +kernel
theorem d_Mo_step_42 : decode b_Mo_step 42 = .ok (.iaload, 1) := by decide +kernel
theorem d_Mo_step_43 : decode b_Mo_step 43 = .ok (.iastore, 1) := by decide +kernel
theorem d_Mo_step_44 : decode b_Mo_step 44 = .ok (.aload_n 0, 1) := by decide +kernel
theorem d_Mo_step_45 : decode b_Mo_step 45 = .ok (.getfield 86, 3) := by decide +kernel
theorem d_Mo_step_48 : decode b_Mo_step 48 = .ok (.iload_n 1, 1) := by decide +kernel
theorem d_Mo_step_49 : decode b_Mo_step 49 = .ok (.dup2, 1) := by decide +kernel
theorem d_Mo_step_50 : decode b_Mo_step 50 = .ok (.iaload, 1) := by decide +kernel
theorem d_Mo_step_51 : decode b_Mo_step 51 = .ok (.iconst 1, 1) := by decide +kernel
theorem d_Mo_step_52 : decode b_Mo_step 52 = .ok (.iadd, 1) := by decide +kernel
theorem d_Mo_step_53 : decode b_Mo_step 53 = .ok (.iastore, 1) := by decide +kernel
theorem d_Mo_step_54 : decode b_Mo_step 54 = .ok (.aload_n 0, 1) := by decide +kernel
theorem d_Mo_step_55 : decode b_Mo_step 55 = .ok (.getfield 29, 3) := by decide +kernel
theorem d_Mo_step_58 : decode b_Mo_step 58 = .ok (.iload_n 2, 1) := by decide +kernel
theorem d_Mo_step_59 : decode b_Mo_step 59 = .ok (.iaload, 1) := by decide +kernel
theorem d_Mo_step_60 : decode b_Mo_step 60 = .ok (.tableswitch 178 0 7 #[48, 56, 64, 72, 97, 107, 139, 152], 48) := by decide +kernel
theorem d_Mo_step_108 : decode b_Mo_step 108 = .ok (.aload_n 0, 1) := by decide +kernel
theorem d_Mo_step_109 : decode b_Mo_step 109 = .ok (.iload_n 3, 1) := by decide +kernel
theorem d_Mo_step_110 : decode b_Mo_step 110 = .ok (.invokevirtual 198, 3) := by decide +kernel
theorem d_Mo_step_113 : decode b_Mo_step 113 = .ok (.goto 147, 3) := by decide +kernel
theorem d_Mo_step_116 : decode b_Mo_step 116 = .ok (.aload_n 0, 1) := by decide +kernel
theorem d_Mo_step_117 : decode b_Mo_step 117 = .ok (.iload_n 3, 1) := by decide +kernel
theorem d_Mo_step_118 : decode b_Mo_step 118 = .ok (.invokevirtual 201, 3) := by decide +kernel
theorem d_Mo_step_121 : decode b_Mo_step 121 = .ok (.goto 139, 3) := by decide +kernel
theorem d_Mo_step_124 : decode b_Mo_step 124 = .ok (.aload_n 0, 1) := by decide +kernel
theorem d_Mo_step_125 : decode b_Mo_step 125 = .ok (.iload_n 3, 1) := by decide +kernel
theorem d_Mo_step_126 : decode b_Mo_step 126 = .ok (.invokevirtual 204, 3) := by decide +kernel
theorem d_Mo_step_129 : decode b_Mo_step 129 = .ok (.goto 131, 3) := by decide +kernel
theorem d_Mo_step_132 : decode b_Mo_step 132 = .ok (.aload_n 0, 1) := by decide +kernel
theorem d_Mo_step_133 : decode b_Mo_step 133 = .ok (.aload_n 0, 1) := by decide +kernel
theorem d_Mo_step_134 : decode b_Mo_step 134 = .ok (.getfield 92, 3) := by decide +kernel
theorem d_Mo_step_137 : decode b_Mo_step 137 = .ok (.bipush 24, 2) := by decide +kernel
theorem d_Mo_step_139 : decode b_Mo_step 139 = .ok (.iload_n 1, 1) := by decide +kernel
theorem d_Mo_step_140 : decode b_Mo_step 140 = .ok (.imul, 1) := by decide +kernel
theorem d_Mo_step_141 : decode b_Mo_step 141 = .ok (.aload_n 0, 1) := by decide +kernel
theorem d_Mo_step_142 : decode b_Mo_step 142 = .ok (.getfield 89, 3) := by decide +kernel
theorem d_Mo_step_145 : decode b_Mo_step 145 = .ok (.iload_n 1, 1) := by decide +kernel
theorem d_Mo_step_146 : decode b_Mo_step 146 = .ok (.iaload, 1) := by decide +kernel
theorem d_Mo_step_147 : decode b_Mo_step 147 = .ok (.iadd, 1) := by decide +kernel
theorem d_Mo_step_148 : decode b_Mo_step 148 = .ok (.iconst 1, 1) := by decide +kernel
theorem d_Mo_step_149 : decode b_Mo_step 149 = .ok (.isub, 1) := by decide +kernel
theorem d_Mo_step_150 : decode b_Mo_step 150 = .ok (.iaload, 1) := by decide +kernel
theorem d_Mo_step_151 : decode b_Mo_step 151 = .ok (.invokevirtual 204, 3) := by decide +kernel
theorem d_Mo_step_154 : decode b_Mo_step 154 = .ok (.goto 106, 3) := by decide +kernel
theorem d_Mo_step_157 : decode b_Mo_step 157 = .ok (.aload_n 0, 1) := by decide +kernel
theorem d_Mo_step_158 : decode b_Mo_step 158 = .ok (.getfield 86, 3) := by decide +kernel
theorem d_Mo_step_161 : decode b_Mo_step 161 = .ok (.iload_n 1, 1) := by decide +kernel
theorem d_Mo_step_162 : decode b_Mo_step 162 = .ok (.iload_n 3, 1) := by decide +kernel
theorem d_Mo_step_163 : decode b_Mo_step 163 = .ok (.iastore, 1) := by decide +kernel
theorem d_Mo_step_164 : decode b_Mo_step 164 = .ok (.goto 96, 3) := by decide +kernel
theorem d_Mo_step_167 : decode b_Mo_step 167 = .ok (.aload_n 0, 1) := by decide +kernel
theorem d_Mo_step_168 : decode b_Mo_step 168 = .ok (.bipush 100, 2) := by decide +kernel
theorem d_Mo_step_170 : decode b_Mo_step 170 = .ok (.iload_n 3, 1) := by decide +kernel
theorem d_Mo_step_171 : decode b_Mo_step 171 = .ok (.iadd, 1) := by decide +kernel
theorem d_Mo_step_172 : decode b_Mo_step 172 = .ok (.invokevirtual 198, 3) := by decide +kernel
theorem d_Mo_step_175 : decode b_Mo_step 175 = .ok (.aload_n 0, 1) := by decide +kernel
theorem d_Mo_step_176 : decode b_Mo_step 176 = .ok (.getfield 95, 3) := by decide +kernel
theorem d_Mo_step_179 : decode b_Mo_step 179 = .ok (.iconst 2, 1) := by decide +kernel
theorem d_Mo_step_180 : decode b_Mo_step 180 = .ok (.dup2, 1) := by decide +kernel
theorem d_Mo_step_181 : decode b_Mo_step 181 = .ok (.iaload, 1) := by decide +kernel
theorem d_Mo_step_182 : decode b_Mo_step 182 = .ok (.aload_n 0, 1) := by decide +kernel
theorem d_Mo_step_183 : decode b_Mo_step 183 = .ok (.getfield 189, 3) := by decide +kernel
theorem d_Mo_step_186 : decode b_Mo_step 186 = .ok (.ifCond .ge 7, 3) := by decide +kernel
theorem d_Mo_step_189 : decode b_Mo_step 189 = .ok (.iconst 1, 1) := by decide +kernel
theorem d_Mo_step_190 : decode b_Mo_step 190 = .ok (.goto 4, 3) := by decide +kernel
theorem d_Mo_step_193 : decode b_Mo_step 193 = .ok (.iconst 0, 1) := by decide +kernel
theorem d_Mo_step_194 : decode b_Mo_step 194 = .ok (.iadd, 1) := by decide +kernel
theorem d_Mo_step_195 : decode b_Mo_step 195 = .ok (.iastore, 1) := by decide +kernel
theorem d_Mo_step_196 : decode b_Mo_step 196 = .ok (.goto 64, 3) := by decide +kernel
theorem d_Mo_step_199 : decode b_Mo_step 199 = .ok (.aload_n 0, 1) := by decide +kernel
theorem d_Mo_step_200 : decode b_Mo_step 200 = .ok (.getfield 89, 3) := by decide +kernel
theorem d_Mo_step_203 : decode b_Mo_step 203 = .ok (.iload_n 1, 1) := by decide +kernel
theorem d_Mo_step_204 : decode b_Mo_step 204 = .ok (.dup2, 1) := by decide +kernel
theorem d_Mo_step_205 : decode b_Mo_step 205 = .ok (.iaload, 1) := by decide +kernel
theorem d_Mo_step_206 : decode b_Mo_step 206 = .ok (.iconst 1, 1) := by decide +kernel
theorem d_Mo_step_207 : decode b_Mo_step 207 = .ok (.isub, 1) := by decide +kernel
theorem d_Mo_step_208 : decode b_Mo_step 208 = .ok (.iastore, 1) := by decide +kernel
theorem d_Mo_step_209 : decode b_Mo_step 209 = .ok (.goto 51, 3) := by decide +kernel
theorem d_Mo_step_212 : decode b_Mo_step 212 = .ok (.aload_n 0, 1) := by decide +kernel
theorem d_Mo_step_213 : decode b_Mo_step 213 = .ok (.aload_n 0, 1) := by decide +kernel
theorem d_Mo_step_214 : decode b_Mo_step 214 = .ok (.getfield 47, 3) := by decide +kernel
theorem d_Mo_step_217 : decode b_Mo_step 217 = .ok (.bipush 48, 2) := by decide +kernel
theorem d_Mo_step_219 : decode b_Mo_step 219 = .ok (.aload_n 0, 1) := by decide +kernel
theorem d_Mo_step_220 : decode b_Mo_step 220 = .ok (.getfield 80, 3) := by decide +kernel
theorem d_Mo_step_223 : decode b_Mo_step 223 = .ok (.iload_n 1, 1) := by decide +kernel
theorem d_Mo_step_224 : decode b_Mo_step 224 = .ok (.iaload, 1) := by decide +kernel
theorem d_Mo_step_225 : decode b_Mo_step 225 = .ok (.imul, 1) := by decide +kernel
theorem d_Mo_step_226 : decode b_Mo_step 226 = .ok (.aload_n 0, 1) := by decide +kernel
theorem d_Mo_step_227 : decode b_Mo_step 227 = .ok (.getfield 183, 3) := by decide +kernel
theorem d_Mo_step_230 : decode b_Mo_step 230 = .ok (.iadd, 1) := by decide +kernel
theorem d_Mo_step_231 : decode b_Mo_step 231 = .ok (.iaload, 1) := by decide +kernel
theorem d_Mo_step_232 : decode b_Mo_step 232 = .ok (.invokevirtual 192, 3) := by decide +kernel
theorem d_Mo_step_235 : decode b_Mo_step 235 = .ok (.goto 25, 3) := by decide +kernel
theorem d_Mo_step_238 : decode b_Mo_step 238 = .ok (.aload_n 0, 1) := by decide +kernel
theorem d_Mo_step_239 : decode b_Mo_step 239 = .ok (.dup, 1) := by decide +kernel
theorem d_Mo_step_240 : decode b_Mo_step 240 = .ok (.getfield 164, 3) := by decide +kernel
theorem d_Mo_step_243 : decode b_Mo_step 243 = .ok (.iconst 1, 1) := by decide +kernel
theorem d_Mo_step_244 : decode b_Mo_step 244 = .ok (.isub, 1) := by decide +kernel
theorem d_Mo_step_245 : decode b_Mo_step 245 = .ok (.putfield 164, 3) := by decide +kernel
theorem d_Mo_step_248 : decode b_Mo_step 248 = .ok (.aload_n 0, 1) := by decide +kernel
theorem d_Mo_step_249 : decode b_Mo_step 249 = .ok (.getfield 164, 3) := by decide +kernel
theorem d_Mo_step_252 : decode b_Mo_step 252 = .ok (.ifCond .ne 8, 3) := by decide +kernel
theorem d_Mo_step_255 : decode b_Mo_step 255 = .ok (.aload_n 0, 1) := by decide +kernel
theorem d_Mo_step_256 : decode b_Mo_step 256 = .ok (.iconst 0, 1) := by decide +kernel
theorem d_Mo_step_257 : decode b_Mo_step 257 = .ok (.putfield 189, 3) := by decide +kernel
theorem d_Mo_step_260 : decode b_Mo_step 260 = .ok (.return_, 1) := by decide +kernel
theorem d_Mo_puts_0 : decode b_Mo_puts 0 = .ok (.aload_n 0, 1) := by decide +kernel
theorem d_Mo_puts_1 : decode b_Mo_puts 1 = .ok (.getfield 95, 3) := by decide +kernel
theorem d_Mo_puts_4 : decode b_Mo_puts 4 = .ok (.iconst 0, 1) := by decide +kernel
theorem d_Mo_puts_5 : decode b_Mo_puts 5 = .ok (.iaload, 1) := by decide +kernel
theorem d_Mo_puts_6 : decode b_Mo_puts 6 = .ok (.bipush 60, 2) := by decide +kernel
theorem d_Mo_puts_8 : decode b_Mo_puts 8 = .ok (.if_icmp .ne 9, 3) := by decide +kernel
theorem d_Mo_puts_11 : decode b_Mo_puts 11 = .ok (.aload_n 0, 1) := by decide +kernel
theorem d_Mo_puts_12 : decode b_Mo_puts 12 = .ok (.iconst 5, 1) := by decide +kernel
theorem d_Mo_puts_13 : decode b_Mo_puts 13 = .ok (.putfield 189, 3) := by decide +kernel
theorem d_Mo_puts_16 : decode b_Mo_puts 16 = .ok (.return_, 1) := by decide +kernel
theorem d_Mo_puts_17 : decode b_Mo_puts 17 = .ok (.aload_n 0, 1) := by decide +kernel
theorem d_Mo_puts_18 : decode b_Mo_puts 18 = .ok (.getfield 98, 3) := by decide +kernel
theorem d_Mo_puts_21 : decode b_Mo_puts 21 = .ok (.aload_n 0, 1) := by decide +kernel
theorem d_Mo_puts_22 : decode b_Mo_puts 22 = .ok (.getfield 95, 3) := by decide +kernel
theorem d_Mo_puts_25 : decode b_Mo_puts 25 = .ok (.iconst 0, 1) := by decide +kernel
theorem d_Mo_puts_26 : decode b_Mo_puts 26 = .ok (.iaload, 1) := by decide +kernel
theorem d_Mo_puts_27 : decode b_Mo_puts 27 = .ok (.iload_n 1, 1) := by decide +kernel
theorem d_Mo_puts_28 : decode b_Mo_puts 28 = .ok (.iastore, 1) := by decide +kernel
theorem d_Mo_puts_29 : decode b_Mo_puts 29 = .ok (.aload_n 0, 1) := by decide +kernel
theorem d_Mo_puts_30 : decode b_Mo_puts 30 = .ok (.getfield 95, 3) := by decide +kernel
theorem d_Mo_puts_33 : decode b_Mo_puts 33 = .ok (.iconst 0, 1) := by decide +kernel
theorem d_Mo_puts_34 : decode b_Mo_puts 34 = .ok (.dup2, 1) := by decide +kernel
theorem d_Mo_puts_35 : decode b_Mo_puts 35 = .ok (.iaload, 1) := by decide +kernel
theorem d_Mo_puts_36 : decode b_Mo_puts 36 = .ok (.iconst 1, 1) := by decide +kernel
theorem d_Mo_puts_37 : decode b_Mo_puts 37 = .ok (.iadd, 1) := by decide +kernel
theorem d_Mo_puts_38 : decode b_Mo_puts 38 = .ok (.iastore, 1) := by decide +kernel
theorem d_Mo_puts_39 : decode b_Mo_puts 39 = .ok (.return_, 1) := by decide +kernel
theorem d_Mo_calls_0 : decode b_Mo_calls 0 = .ok (.aload_n 0, 1) := by decide +kernel
theorem d_Mo_calls_1 : decode b_Mo_calls 1 = .ok (.getfield 26, 3) := by decide +kernel
theorem d_Mo_calls_4 : decode b_Mo_calls 4 = .ok (.iload_n 1, 1) := by decide +kernel
theorem d_Mo_calls_5 : decode b_Mo_calls 5 = .ok (.iaload, 1) := by decide +kernel
theorem d_Mo_calls_6 : decode b_Mo_calls 6 = .ok (.ifCond .ne 11, 3) := by decide +kernel
theorem d_Mo_calls_9 : decode b_Mo_calls 9 = .ok (.aload_n 0, 1) := by decide +kernel
theorem d_Mo_calls_10 : decode b_Mo_calls 10 = .ok (.iconst 4, 1) := by decide +kernel
theorem d_Mo_calls_11 : decode b_Mo_calls 11 = .ok (.putfield 189, 3) := by decide +kernel
theorem d_Mo_calls_14 : decode b_Mo_calls 14 = .ok (.goto 25, 3) := by decide +kernel
theorem d_Mo_calls_17 : decode b_Mo_calls 17 = .ok (.aload_n 0, 1) := by decide +kernel
theorem d_Mo_calls_18 : decode b_Mo_calls 18 = .ok (.getfield 164, 3) := by decide +kernel
theorem d_Mo_calls_21 : decode b_Mo_calls 21 = .ok (.bipush 8, 2) := by decide +kernel
theorem d_Mo_calls_23 : decode b_Mo_calls 23 = .ok (.if_icmp .ne 11, 3) := by decide +kernel
theorem d_Mo_calls_26 : decode b_Mo_calls 26 = .ok (.aload_n 0, 1) := by decide +kernel
theorem d_Mo_calls_27 : decode b_Mo_calls 27 = .ok (.iconst 2, 1) := by decide +kernel
theorem d_Mo_calls_28 : decode b_Mo_calls 28 = .ok (.putfield 189, 3) := by decide +kernel
theorem d_Mo_calls_31 : decode b_Mo_calls 31 = .ok (.goto 8, 3) := by decide +kernel
theorem d_Mo_calls_34 : decode b_Mo_calls 34 = .ok (.aload_n 0, 1) := by decide +kernel
theorem d_Mo_calls_35 : decode b_Mo_calls 35 = .ok (.iload_n 1, 1) := by decide +kernel
theorem d_Mo_calls_36 : decode b_Mo_calls 36 = .ok (.invokevirtual 195, 3) := by decide +kernel
theorem d_Mo_calls_39 : decode b_Mo_calls 39 = .ok (.return_, 1) := by decide +kernel
theorem d_Mo_raises_0 : decode b_Mo_raises 0 = .ok (.aload_n 0, 1) := by decide +kernel
theorem d_Mo_raises_1 : decode b_Mo_raises 1 = .ok (.iload_n 1, 1) := by decide +kernel
theorem d_Mo_raises_2 : decode b_Mo_raises 2 = .ok (.putfield 171, 3) := by decide +kernel
theorem d_Mo_raises_5 : decode b_Mo_raises 5 = .ok (.aload_n 0, 1) := by decide +kernel
theorem d_Mo_raises_6 : decode b_Mo_raises 6 = .ok (.invokevirtual 186, 3) := by decide +kernel
theorem d_Mo_raises_9 : decode b_Mo_raises 9 = .ok (.ifCond .ne 16, 3) := by decide +kernel
theorem d_Mo_raises_12 : decode b_Mo_raises 12 = .ok (.aload_n 0, 1) := by decide +kernel
theorem d_Mo_raises_13 : decode b_Mo_raises 13 = .ok (.getfield 95, 3) := by decide +kernel
theorem d_Mo_raises_16 : decode b_Mo_raises 16 = .ok (.iconst 5, 1) := by decide +kernel
theorem d_Mo_raises_17 : decode b_Mo_raises 17 = .ok (.iload_n 1, 1) := by decide +kernel
theorem d_Mo_raises_18 : decode b_Mo_raises 18 = .ok (.iastore, 1) := by decide +kernel
theorem d_Mo_raises_19 : decode b_Mo_raises 19 = .ok (.aload_n 0, 1) := by decide +kernel
theorem d_Mo_raises_20 : decode b_Mo_raises 20 = .ok (.iconst 1, 1) := by decide +kernel
theorem d_Mo_raises_21 : decode b_Mo_raises 21 = .ok (.putfield 189, 3) := by decide +kernel
theorem d_Mo_raises_24 : decode b_Mo_raises 24 = .ok (.return_, 1) := by decide +kernel
theorem d_Mo_raises_25 : decode b_Mo_raises 25 = .ok (.aload_n 0, 1) := by decide +kernel
theorem d_Mo_raises_26 : decode b_Mo_raises 26 = .ok (.getfield 95, 3) := by decide +kernel
theorem d_Mo_raises_29 : decode b_Mo_raises 29 = .ok (.iconst 3, 1) := by decide +kernel
theorem d_Mo_raises_30 : decode b_Mo_raises 30 = .ok (.dup2, 1) := by decide +kernel
theorem d_Mo_raises_31 : decode b_Mo_raises 31 = .ok (.iaload, 1) := by decide +kernel
theorem d_Mo_raises_32 : decode b_Mo_raises 32 = .ok (.iconst 1, 1) := by decide +kernel
theorem d_Mo_raises_33 : decode b_Mo_raises 33 = .ok (.iadd, 1) := by decide +kernel
theorem d_Mo_raises_34 : decode b_Mo_raises 34 = .ok (.iastore, 1) := by decide +kernel
theorem d_Mo_raises_35 : decode b_Mo_raises 35 = .ok (.aload_n 0, 1) := by decide +kernel
theorem d_Mo_raises_36 : decode b_Mo_raises 36 = .ok (.aload_n 0, 1) := by decide +kernel
theorem d_Mo_raises_37 : decode b_Mo_raises 37 = .ok (.aload_n 0, 1) := by decide +kernel
theorem d_Mo_raises_38 : decode b_Mo_raises 38 = .ok (.getfield 164, 3) := by decide +kernel
theorem d_Mo_raises_41 : decode b_Mo_raises 41 = .ok (.iconst 1, 1) := by decide +kernel
theorem d_Mo_raises_42 : decode b_Mo_raises 42 = .ok (.isub, 1) := by decide +kernel
theorem d_Mo_raises_43 : decode b_Mo_raises 43 = .ok (.invokevirtual 167, 3) := by decide +kernel
theorem d_Mo_raises_46 : decode b_Mo_raises 46 = .ok (.invokevirtual 192, 3) := by decide +kernel
theorem d_Mo_raises_49 : decode b_Mo_raises 49 = .ok (.return_, 1) := by decide +kernel
theorem d_Mo_searches_0 : decode b_Mo_searches 0 = .ok (.aload_n 0, 1) := by decide +kernel
theorem d_Mo_searches_1 : decode b_Mo_searches 1 = .ok (.getfield 164, 3) := by decide +kernel
theorem d_Mo_searches_4 : decode b_Mo_searches 4 = .ok (.iconst 1, 1) := by decide +kernel
theorem d_Mo_searches_5 : decode b_Mo_searches 5 = .ok (.isub, 1) := by decide +kernel
theorem d_Mo_searches_6 : decode b_Mo_searches 6 = .ok (.istore_n 1, 1) := by decide +kernel
theorem d_Mo_searches_7 : decode b_Mo_searches 7 = .ok (.iload_n 1, 1) := by decide +kernel
theorem d_Mo_searches_8 : decode b_Mo_searches 8 = .ok (.ifCond .lt 87, 3) := by decide +kernel
theorem d_Mo_searches_11 : decode b_Mo_searches 11 = .ok (.bipush 48, 2) := by decide +kernel
theorem d_Mo_searches_13 : decode b_Mo_searches 13 = .ok (.aload_n 0, 1) := by decide +kernel
theorem d_Mo_searches_14 : decode b_Mo_searches 14 = .ok (.getfield 80, 3) := by decide +kernel
theorem d_Mo_searches_17 : decode b_Mo_searches 17 = .ok (.iload_n 1, 1) := by decide +kernel
theorem d_Mo_searches_18 : decode b_Mo_searches 18 = .ok (.iaload, 1) := by decide +kernel
theorem d_Mo_searches_19 : decode b_Mo_searches 19 = .ok (.imul, 1) := by decide +kernel
theorem d_Mo_searches_20 : decode b_Mo_searches 20 = .ok (.istore_n 2, 1) := by decide +kernel
theorem d_Mo_searches_21 : decode b_Mo_searches 21 = .ok (.aload_n 0, 1) := by decide +kernel
theorem d_Mo_searches_22 : decode b_Mo_searches 22 = .ok (.iload_n 1, 1) := by decide +kernel
theorem d_Mo_searches_23 : decode b_Mo_searches 23 = .ok (.invokevirtual 167, 3) := by decide +kernel
theorem d_Mo_searches_26 : decode b_Mo_searches 26 = .ok (.istore_n 3, 1) := by decide +kernel
theorem d_Mo_searches_27 : decode b_Mo_searches 27 = .ok (.iload_n 3, 1) := by decide +kernel
theorem d_Mo_searches_28 : decode b_Mo_searches 28 = .ok (.ifCond .lt 61, 3) := by decide +kernel
theorem d_Mo_searches_31 : decode b_Mo_searches 31 = .ok (.aload_n 0, 1) := by decide +kernel
theorem d_Mo_searches_32 : decode b_Mo_searches 32 = .ok (.getfield 41, 3) := by decide +kernel
theorem d_Mo_searches_35 : decode b_Mo_searches 35 = .ok (.iload_n 2, 1) := by decide +kernel
theorem d_Mo_searches_36 : decode b_Mo_searches 36 = .ok (.iload_n 3, 1) := by decide +kernel
theorem d_Mo_searches_37 : decode b_Mo_searches 37 = .ok (.iadd, 1) := by decide +kernel
theorem d_Mo_searches_38 : decode b_Mo_searches 38 = .ok (.iaload, 1) := by decide +kernel
theorem d_Mo_searches_39 : decode b_Mo_searches 39 = .ok (.istore 4, 2) := by decide +kernel
theorem d_Mo_searches_41 : decode b_Mo_searches 41 = .ok (.iload 4, 2) := by decide +kernel
theorem d_Mo_searches_43 : decode b_Mo_searches 43 = .ok (.iconst (-1), 1) := by decide +kernel
theorem d_Mo_searches_44 : decode b_Mo_searches 44 = .ok (.if_icmp .eq 21, 3) := by decide +kernel
theorem d_Mo_searches_47 : decode b_Mo_searches 47 = .ok (.iload 4, 2) := by decide +kernel
theorem d_Mo_searches_49 : decode b_Mo_searches 49 = .ok (.ifCond .lt 28, 3) := by decide +kernel
theorem d_Mo_searches_52 : decode b_Mo_searches 52 = .ok (.aload_n 0, 1) := by decide +kernel
theorem d_Mo_searches_53 : decode b_Mo_searches 53 = .ok (.aload_n 0, 1) := by decide +kernel
theorem d_Mo_searches_54 : decode b_Mo_searches 54 = .ok (.getfield 171, 3) := by decide +kernel
theorem d_Mo_searches_57 : decode b_Mo_searches 57 = .ok (.iload 4, 2) := by decide +kernel
theorem d_Mo_searches_59 : decode b_Mo_searches 59 = .ok (.invokevirtual 174, 3) := by decide +kernel
theorem d_Mo_searches_62 : decode b_Mo_searches 62 = .ok (.ifCond .eq 15, 3) := by decide +kernel
theorem d_Mo_searches_65 : decode b_Mo_searches 65 = .ok (.aload_n 0, 1) := by decide +kernel
theorem d_Mo_searches_66 : decode b_Mo_searches 66 = .ok (.iload_n 1, 1) := by decide +kernel
theorem d_Mo_searches_67 : decode b_Mo_searches 67 = .ok (.putfield 177, 3) := by decide +kernel
theorem d_Mo_searches_70 : decode b_Mo_searches 70 = .ok (.aload_n 0, 1) := by decide +kernel
theorem d_Mo_searches_71 : decode b_Mo_searches 71 = .ok (.iload_n 3, 1) := by decide +kernel
theorem d_Mo_searches_72 : decode b_Mo_searches 72 = .ok (.putfield 180, 3) := by decide +kernel
theorem d_Mo_searches_75 : decode b_Mo_searches 75 = .ok (.iconst 1, 1) := by decide +kernel
theorem d_Mo_searches_76 : decode b_Mo_searches 76 = .ok (.ireturn, 1) := by decide +kernel
theorem d_Mo_searches_77 : decode b_Mo_searches 77 = .ok (.aload_n 0, 1) := by decide +kernel
theorem d_Mo_searches_78 : decode b_Mo_searches 78 = .ok (.getfield 47, 3) := by decide +kernel
theorem d_Mo_searches_81 : decode b_Mo_searches 81 = .ok (.iload_n 2, 1) := by decide +kernel
theorem d_Mo_searches_82 : decode b_Mo_searches 82 = .ok (.iload_n 3, 1) := by decide +kernel
theorem d_Mo_searches_83 : decode b_Mo_searches 83 = .ok (.iadd, 1) := by decide +kernel
theorem d_Mo_searches_84 : decode b_Mo_searches 84 = .ok (.iaload, 1) := by decide +kernel
theorem d_Mo_searches_85 : decode b_Mo_searches 85 = .ok (.istore_n 3, 1) := by decide +kernel
theorem d_Mo_searches_86 : decode b_Mo_searches 86 = .ok (.goto (-59), 3) := by decide +kernel
theorem d_Mo_searches_89 : decode b_Mo_searches 89 = .ok (.iinc 1 (-1), 3) := by decide +kernel
theorem d_Mo_searches_92 : decode b_Mo_searches 92 = .ok (.goto (-85), 3) := by decide +kernel
theorem d_Mo_searches_95 : decode b_Mo_searches 95 = .ok (.iconst 0, 1) := by decide +kernel
theorem d_Mo_searches_96 : decode b_Mo_searches 96 = .ok (.ireturn, 1) := by decide +kernel
theorem d_Mo_headAt_0 : decode b_Mo_headAt 0 = .ok (.aload_n 0, 1) := by decide +kernel
theorem d_Mo_headAt_1 : decode b_Mo_headAt 1 = .ok (.getfield 80, 3) := by decide +kernel
theorem d_Mo_headAt_4 : decode b_Mo_headAt 4 = .ok (.iload_n 1, 1) := by decide +kernel
theorem d_Mo_headAt_5 : decode b_Mo_headAt 5 = .ok (.iaload, 1) := by decide +kernel
theorem d_Mo_headAt_6 : decode b_Mo_headAt 6 = .ok (.istore_n 2, 1) := by decide +kernel
theorem d_Mo_headAt_7 : decode b_Mo_headAt 7 = .ok (.iconst (-1), 1) := by decide +kernel
theorem d_Mo_headAt_8 : decode b_Mo_headAt 8 = .ok (.istore_n 3, 1) := by decide +kernel
theorem d_Mo_headAt_9 : decode b_Mo_headAt 9 = .ok (.iconst 0, 1) := by decide +kernel
theorem d_Mo_headAt_10 : decode b_Mo_headAt 10 = .ok (.istore 4, 2) := by decide +kernel
theorem d_Mo_headAt_12 : decode b_Mo_headAt 12 = .ok (.iload 4, 2) := by decide +kernel
theorem d_Mo_headAt_14 : decode b_Mo_headAt 14 = .ok (.aload_n 0, 1) := by decide +kernel
theorem d_Mo_headAt_15 : decode b_Mo_headAt 15 = .ok (.getfield 50, 3) := by decide +kernel
theorem d_Mo_headAt_18 : decode b_Mo_headAt 18 = .ok (.iload_n 2, 1) := by decide +kernel
theorem d_Mo_headAt_19 : decode b_Mo_headAt 19 = .ok (.iaload, 1) := by decide +kernel
theorem d_Mo_headAt_20 : decode b_Mo_headAt 20 = .ok (.if_icmp .ge 58, 3) := by decide +kernel
theorem d_Mo_headAt_23 : decode b_Mo_headAt 23 = .ok (.bipush 64, 2) := by decide +kernel
theorem d_Mo_headAt_25 : decode b_Mo_headAt 25 = .ok (.iload_n 2, 1) := by decide +kernel
theorem d_Mo_headAt_26 : decode b_Mo_headAt 26 = .ok (.imul, 1) := by decide +kernel
theorem d_Mo_headAt_27 : decode b_Mo_headAt 27 = .ok (.iload 4, 2) := by decide +kernel
theorem d_Mo_headAt_29 : decode b_Mo_headAt 29 = .ok (.iadd, 1) := by decide +kernel
theorem d_Mo_headAt_30 : decode b_Mo_headAt 30 = .ok (.istore 5, 2) := by decide +kernel
theorem d_Mo_headAt_32 : decode b_Mo_headAt 32 = .ok (.aload_n 0, 1) := by decide +kernel
theorem d_Mo_headAt_33 : decode b_Mo_headAt 33 = .ok (.getfield 53, 3) := by decide +kernel
theorem d_Mo_headAt_36 : decode b_Mo_headAt 36 = .ok (.iload 5, 2) := by decide +kernel
theorem d_Mo_headAt_38 : decode b_Mo_headAt 38 = .ok (.iaload, 1) := by decide +kernel
theorem d_Mo_headAt_39 : decode b_Mo_headAt 39 = .ok (.aload_n 0, 1) := by decide +kernel
theorem d_Mo_headAt_40 : decode b_Mo_headAt 40 = .ok (.getfield 83, 3) := by decide +kernel
theorem d_Mo_headAt_43 : decode b_Mo_headAt 43 = .ok (.iload_n 1, 1) := by decide +kernel
theorem d_Mo_headAt_44 : decode b_Mo_headAt 44 = .ok (.iaload, 1) := by decide +kernel
theorem d_Mo_headAt_45 : decode b_Mo_headAt 45 = .ok (.if_icmp .gt 27, 3) := by decide +kernel
theorem d_Mo_headAt_48 : decode b_Mo_headAt 48 = .ok (.aload_n 0, 1) := by decide +kernel
theorem d_Mo_headAt_49 : decode b_Mo_headAt 49 = .ok (.getfield 83, 3) := by decide +kernel
theorem d_Mo_headAt_52 : decode b_Mo_headAt 52 = .ok (.iload_n 1, 1) := by decide +kernel
theorem d_Mo_headAt_53 : decode b_Mo_headAt 53 = .ok (.iaload, 1) := by decide +kernel
theorem d_Mo_headAt_54 : decode b_Mo_headAt 54 = .ok (.aload_n 0, 1) := by decide +kernel
theorem d_Mo_headAt_55 : decode b_Mo_headAt 55 = .ok (.getfield 56, 3) := by decide +kernel
theorem d_Mo_headAt_58 : decode b_Mo_headAt 58 = .ok (.iload 5, 2) := by decide +kernel
theorem d_Mo_headAt_60 : decode b_Mo_headAt 60 = .ok (.iaload, 1) := by decide +kernel
theorem d_Mo_headAt_61 : decode b_Mo_headAt 61 = .ok (.if_icmp .gt 11, 3) := by decide +kernel
theorem d_Mo_headAt_64 : decode b_Mo_headAt 64 = .ok (.aload_n 0, 1) := by decide +kernel
theorem d_Mo_headAt_65 : decode b_Mo_headAt 65 = .ok (.getfield 59, 3) := by decide +kernel
theorem d_Mo_headAt_68 : decode b_Mo_headAt 68 = .ok (.iload 5, 2) := by decide +kernel
theorem d_Mo_headAt_70 : decode b_Mo_headAt 70 = .ok (.iaload, 1) := by decide +kernel
theorem d_Mo_headAt_71 : decode b_Mo_headAt 71 = .ok (.istore_n 3, 1) := by decide +kernel
theorem d_Mo_headAt_72 : decode b_Mo_headAt 72 = .ok (.iinc 4 1, 3) := by decide +kernel
theorem d_Mo_headAt_75 : decode b_Mo_headAt 75 = .ok (.goto (-63), 3) := by decide +kernel
theorem d_Mo_headAt_78 : decode b_Mo_headAt 78 = .ok (.iload_n 3, 1) := by decide +kernel
theorem d_Mo_headAt_79 : decode b_Mo_headAt 79 = .ok (.ireturn, 1) := by decide +kernel
theorem d_Mo_isAnother_0 : decode b_Mo_isAnother 0 = .ok (.iload_n 1, 1) := by decide +kernel
theorem d_Mo_isAnother_1 : decode b_Mo_isAnother 1 = .ok (.istore_n 3, 1) := by decide +kernel
theorem d_Mo_isAnother_2 : decode b_Mo_isAnother 2 = .ok (.iload_n 3, 1) := by decide +kernel
theorem d_Mo_isAnother_3 : decode b_Mo_isAnother 3 = .ok (.ifCond .lt 18, 3) := by decide +kernel
theorem d_Mo_isAnother_6 : decode b_Mo_isAnother 6 = .ok (.iload_n 3, 1) := by decide +kernel
theorem d_Mo_isAnother_7 : decode b_Mo_isAnother 7 = .ok (.iload_n 2, 1) := by decide +kernel
theorem d_Mo_isAnother_8 : decode b_Mo_isAnother 8 = .ok (.if_icmp .eq 13, 3) := by decide +kernel
theorem d_Mo_isAnother_11 : decode b_Mo_isAnother 11 = .ok (.aload_n 0, 1) := by decide +kernel
theorem d_Mo_isAnother_12 : decode b_Mo_isAnother 12 = .ok (.getfield 13, 3) := by decide +kernel
theorem d_Mo_isAnother_15 : decode b_Mo_isAnother 15 = .ok (.iload_n 3, 1) := by decide +kernel
theorem d_Mo_isAnother_16 : decode b_Mo_isAnother 16 = .ok (.iaload, 1) := by decide +kernel
theorem d_Mo_isAnother_17 : decode b_Mo_isAnother 17 = .ok (.istore_n 3, 1) := by decide +kernel
theorem d_Mo_isAnother_18 : decode b_Mo_isAnother 18 = .ok (.goto (-16), 3) := by decide +kernel
theorem d_Mo_isAnother_21 : decode b_Mo_isAnother 21 = .ok (.iload_n 3, 1) := by decide +kernel
theorem d_Mo_isAnother_22 : decode b_Mo_isAnother 22 = .ok (.iload_n 2, 1) := by decide +kernel
theorem d_Mo_isAnother_23 : decode b_Mo_isAnother 23 = .ok (.if_icmp .ne 7, 3) := by decide +kernel
theorem d_Mo_isAnother_26 : decode b_Mo_isAnother 26 = .ok (.iconst 1, 1) := by decide +kernel
theorem d_Mo_isAnother_27 : decode b_Mo_isAnother 27 = .ok (.goto 4, 3) := by decide +kernel
theorem d_Mo_isAnother_30 : decode b_Mo_isAnother 30 = .ok (.iconst 0, 1) := by decide +kernel
theorem d_Mo_isAnother_31 : decode b_Mo_isAnother 31 = .ok (.ireturn, 1) := by decide +kernel
theorem d_Mo_unwinds_0 : decode b_Mo_unwinds 0 = .ok (.iload_n 1, 1) := by decide +kernel
theorem d_Mo_unwinds_1 : decode b_Mo_unwinds 1 = .ok (.istore_n 2, 1) := by decide +kernel
theorem d_Mo_unwinds_2 : decode b_Mo_unwinds 2 = .ok (.iconst 1, 1) := by decide +kernel
theorem d_Mo_unwinds_3 : decode b_Mo_unwinds 3 = .ok (.istore_n 3, 1) := by decide +kernel
theorem d_Mo_unwinds_4 : decode b_Mo_unwinds 4 = .ok (.iload_n 3, 1) := by decide +kernel
theorem d_Mo_unwinds_5 : decode b_Mo_unwinds 5 = .ok (.ifCond .eq 175, 3) := by decide +kernel
theorem d_Mo_unwinds_8 : decode b_Mo_unwinds 8 = .ok (.aload_n 0, 1) := by decide +kernel
theorem d_Mo_unwinds_9 : decode b_Mo_unwinds 9 = .ok (.getfield 164, 3) := by decide +kernel
theorem d_Mo_unwinds_12 : decode b_Mo_unwinds 12 = .ok (.iconst 1, 1) := by decide +kernel
theorem d_Mo_unwinds_13 : decode b_Mo_unwinds 13 = .ok (.isub, 1) := by decide +kernel
theorem d_Mo_unwinds_14 : decode b_Mo_unwinds 14 = .ok (.istore 4, 2) := by decide +kernel
theorem d_Mo_unwinds_16 : decode b_Mo_unwinds 16 = .ok (.bipush 48, 2) := by decide +kernel
theorem d_Mo_unwinds_18 : decode b_Mo_unwinds 18 = .ok (.aload_n 0, 1) := by decide +kernel
theorem d_Mo_unwinds_19 : decode b_Mo_unwinds 19 = .ok (.getfield 80, 3) := by decide +kernel
theorem d_Mo_unwinds_22 : decode b_Mo_unwinds 22 = .ok (.iload 4, 2) := by decide +kernel
theorem d_Mo_unwinds_24 : decode b_Mo_unwinds 24 = .ok (.iaload, 1) := by decide +kernel
theorem d_Mo_unwinds_25 : decode b_Mo_unwinds 25 = .ok (.imul, 1) := by decide +kernel
theorem d_Mo_unwinds_26 : decode b_Mo_unwinds 26 = .ok (.istore 5, 2) := by decide +kernel
theorem d_Mo_unwinds_28 : decode b_Mo_unwinds 28 = .ok (.iload_n 2, 1) := by decide +kernel
theorem d_Mo_unwinds_29 : decode b_Mo_unwinds 29 = .ok (.ifCond .ge 27, 3) := by decide +kernel
theorem d_Mo_unwinds_32 : decode b_Mo_unwinds 32 = .ok (.aload_n 0, 1) := by decide +kernel
theorem d_Mo_unwinds_33 : decode b_Mo_unwinds 33 = .ok (.dup, 1) := by decide +kernel
theorem d_Mo_unwinds_34 : decode b_Mo_unwinds 34 = .ok (.getfield 164, 3) := by decide +kernel
theorem d_Mo_unwinds_37 : decode b_Mo_unwinds 37 = .ok (.iconst 1, 1) := by decide +kernel
theorem d_Mo_unwinds_38 : decode b_Mo_unwinds 38 = .ok (.isub, 1) := by decide +kernel
theorem d_Mo_unwinds_39 : decode b_Mo_unwinds 39 = .ok (.putfield 164, 3) := by decide +kernel
theorem d_Mo_unwinds_42 : decode b_Mo_unwinds 42 = .ok (.aload_n 0, 1) := by decide +kernel
theorem d_Mo_unwinds_43 : decode b_Mo_unwinds 43 = .ok (.aload_n 0, 1) := by decide +kernel
theorem d_Mo_unwinds_44 : decode b_Mo_unwinds 44 = .ok (.getfield 164, 3) := by decide +kernel
theorem d_Mo_unwinds_47 : decode b_Mo_unwinds 47 = .ok (.iconst 1, 1) := by decide +kernel
theorem d_Mo_unwinds_48 : decode b_Mo_unwinds 48 = .ok (.isub, 1) := by decide +kernel
theorem d_Mo_unwinds_49 : decode b_Mo_unwinds 49 = .ok (.invokevirtual 167, 3) := by decide +kernel
theorem d_Mo_unwinds_52 : decode b_Mo_unwinds 52 = .ok (.istore_n 2, 1) := by decide +kernel
theorem d_Mo_unwinds_53 : decode b_Mo_unwinds 53 = .ok (.goto 124, 3) := by decide +kernel
theorem d_Mo_unwinds_56 : decode b_Mo_unwinds 56 = .ok (.iload 4, 2) := by decide +kernel
theorem d_Mo_unwinds_58 : decode b_Mo_unwinds 58 = .ok (.aload_n 0, 1) := by decide +kernel
theorem d_Mo_unwinds_59 : decode b_Mo_unwinds 59 = .ok (.getfield 177, 3) := by decide +kernel
theorem d_Mo_unwinds_62 : decode b_Mo_unwinds 62 = .ok (.if_icmp .ne 65, 3) := by decide +kernel
theorem d_Mo_unwinds_65 : decode b_Mo_unwinds 65 = .ok (.iload_n 2, 1) := by decide +kernel
theorem d_Mo_unwinds_66 : decode b_Mo_unwinds 66 = .ok (.aload_n 0, 1) := by decide +kernel
theorem d_Mo_unwinds_67 : decode b_Mo_unwinds 67 = .ok (.getfield 180, 3) := by decide +kernel
theorem d_Mo_unwinds_70 : decode b_Mo_unwinds 70 = .ok (.if_icmp .ne 57, 3) := by decide +kernel
theorem d_Mo_unwinds_73 : decode b_Mo_unwinds 73 = .ok (.aload_n 0, 1) := by decide +kernel
theorem d_Mo_unwinds_74 : decode b_Mo_unwinds 74 = .ok (.getfield 92, 3) := by decide +kernel
theorem d_Mo_unwinds_77 : decode b_Mo_unwinds 77 = .ok (.bipush 24, 2) := by decide +kernel
theorem d_Mo_unwinds_79 : decode b_Mo_unwinds 79 = .ok (.iload 4, 2) := by decide +kernel
theorem d_Mo_unwinds_81 : decode b_Mo_unwinds 81 = .ok (.imul, 1) := by decide +kernel
theorem d_Mo_unwinds_82 : decode b_Mo_unwinds 82 = .ok (.aload_n 0, 1) := by decide +kernel
theorem d_Mo_unwinds_83 : decode b_Mo_unwinds 83 = .ok (.getfield 89, 3) := by decide +kernel
theorem d_Mo_unwinds_86 : decode b_Mo_unwinds 86 = .ok (.iload 4, 2) := by decide +kernel
theorem d_Mo_unwinds_88 : decode b_Mo_unwinds 88 = .ok (.iaload, 1) := by decide +kernel
theorem d_Mo_unwinds_89 : decode b_Mo_unwinds 89 = .ok (.iadd, 1) := by decide +kernel
theorem d_Mo_unwinds_90 : decode b_Mo_unwinds 90 = .ok (.aload_n 0, 1) := by decide +kernel
theorem d_Mo_unwinds_91 : decode b_Mo_unwinds 91 = .ok (.getfield 171, 3) := by decide +kernel
theorem d_Mo_unwinds_94 : decode b_Mo_unwinds 94 = .ok (.iastore, 1) := by decide +kernel
theorem d_Mo_unwinds_95 : decode b_Mo_unwinds 95 = .ok (.aload_n 0, 1) := by decide +kernel
theorem d_Mo_unwinds_96 : decode b_Mo_unwinds 96 = .ok (.getfield 89, 3) := by decide +kernel
theorem d_Mo_unwinds_99 : decode b_Mo_unwinds 99 = .ok (.iload 4, 2) := by decide +kernel
theorem d_Mo_unwinds_101 : decode b_Mo_unwinds 101 = .ok (.dup2, 1) := by decide +kernel
theorem d_Mo_unwinds_102 : decode b_Mo_unwinds 102 = .ok (.iaload, 1) := by decide +kernel
theorem d_Mo_unwinds_103 : decode b_Mo_unwinds 103 = .ok (.iconst 1, 1) := by decide +kernel
theorem d_Mo_unwinds_104 : decode b_Mo_unwinds 104 = .ok (.iadd, 1) := by decide +kernel
theorem d_Mo_unwinds_105 : decode b_Mo_unwinds 105 = .ok (.iastore, 1) := by decide +kernel
theorem d_Mo_unwinds_106 : decode b_Mo_unwinds 106 = .ok (.aload_n 0, 1) := by decide +kernel
theorem d_Mo_unwinds_107 : decode b_Mo_unwinds 107 = .ok (.getfield 86, 3) := by decide +kernel
theorem d_Mo_unwinds_110 : decode b_Mo_unwinds 110 = .ok (.iload 4, 2) := by decide +kernel
theorem d_Mo_unwinds_112 : decode b_Mo_unwinds 112 = .ok (.aload_n 0, 1) := by decide +kernel
theorem d_Mo_unwinds_113 : decode b_Mo_unwinds 113 = .ok (.getfield 44, 3) := by decide +kernel
theorem d_Mo_unwinds_116 : decode b_Mo_unwinds 116 = .ok (.iload 5, 2) := by decide +kernel
theorem d_Mo_unwinds_118 : decode b_Mo_unwinds 118 = .ok (.iload_n 2, 1) := by decide +kernel
theorem d_Mo_unwinds_119 : decode b_Mo_unwinds 119 = .ok (.iadd, 1) := by decide +kernel
theorem d_Mo_unwinds_120 : decode b_Mo_unwinds 120 = .ok (.iaload, 1) := by decide +kernel
theorem d_Mo_unwinds_121 : decode b_Mo_unwinds 121 = .ok (.iastore, 1) := by decide +kernel
theorem d_Mo_unwinds_122 : decode b_Mo_unwinds 122 = .ok (.iconst 0, 1) := by decide +kernel
theorem d_Mo_unwinds_123 : decode b_Mo_unwinds 123 = .ok (.istore_n 3, 1) := by decide +kernel
theorem d_Mo_unwinds_124 : decode b_Mo_unwinds 124 = .ok (.goto 53, 3) := by decide +kernel
theorem d_Mo_unwinds_127 : decode b_Mo_unwinds 127 = .ok (.aload_n 0, 1) := by decide +kernel
theorem d_Mo_unwinds_128 : decode b_Mo_unwinds 128 = .ok (.getfield 41, 3) := by decide +kernel
theorem d_Mo_unwinds_131 : decode b_Mo_unwinds 131 = .ok (.iload 5, 2) := by decide +kernel
theorem d_Mo_unwinds_133 : decode b_Mo_unwinds 133 = .ok (.iload_n 2, 1) := by decide +kernel
theorem d_Mo_unwinds_134 : decode b_Mo_unwinds 134 = .ok (.iadd, 1) := by decide +kernel
theorem d_Mo_unwinds_135 : decode b_Mo_unwinds 135 = .ok (.iaload, 1) := by decide +kernel
theorem d_Mo_unwinds_136 : decode b_Mo_unwinds 136 = .ok (.bipush (-2), 2) := by decide +kernel
theorem d_Mo_unwinds_138 : decode b_Mo_unwinds 138 = .ok (.if_icmp .ne 29, 3) := by decide +kernel
theorem d_Mo_unwinds_141 : decode b_Mo_unwinds 141 = .ok (.aload_n 0, 1) := by decide +kernel
theorem d_Mo_unwinds_142 : decode b_Mo_unwinds 142 = .ok (.iload_n 2, 1) := by decide +kernel
theorem d_Mo_unwinds_143 : decode b_Mo_unwinds 143 = .ok (.putfield 183, 3) := by decide +kernel
theorem d_Mo_unwinds_146 : decode b_Mo_unwinds 146 = .ok (.aload_n 0, 1) := by decide +kernel
theorem d_Mo_unwinds_147 : decode b_Mo_unwinds 147 = .ok (.getfield 86, 3) := by decide +kernel
theorem d_Mo_unwinds_150 : decode b_Mo_unwinds 150 = .ok (.iload 4, 2) := by decide +kernel
theorem d_Mo_unwinds_152 : decode b_Mo_unwinds 152 = .ok (.aload_n 0, 1) := by decide +kernel
theorem d_Mo_unwinds_153 : decode b_Mo_unwinds 153 = .ok (.getfield 44, 3) := by decide +kernel
theorem d_Mo_unwinds_156 : decode b_Mo_unwinds 156 = .ok (.iload 5, 2) := by decide +kernel
theorem d_Mo_unwinds_158 : decode b_Mo_unwinds 158 = .ok (.iload_n 2, 1) := by decide +kernel
theorem d_Mo_unwinds_159 : decode b_Mo_unwinds 159 = .ok (.iadd, 1) := by decide +kernel
theorem d_Mo_unwinds_160 : decode b_Mo_unwinds 160 = .ok (.iaload, 1) := by decide +kernel
theorem d_Mo_unwinds_161 : decode b_Mo_unwinds 161 = .ok (.iastore, 1) := by decide +kernel
theorem d_Mo_unwinds_162 : decode b_Mo_unwinds 162 = .ok (.iconst 0, 1) := by decide +kernel
theorem d_Mo_unwinds_163 : decode b_Mo_unwinds 163 = .ok (.istore_n 3, 1) := by decide +kernel
theorem d_Mo_unwinds_164 : decode b_Mo_unwinds 164 = .ok (.goto 13, 3) := by decide +kernel
theorem d_Mo_unwinds_167 : decode b_Mo_unwinds 167 = .ok (.aload_n 0, 1) := by decide +kernel
theorem d_Mo_unwinds_168 : decode b_Mo_unwinds 168 = .ok (.getfield 47, 3) := by decide +kernel
theorem d_Mo_unwinds_171 : decode b_Mo_unwinds 171 = .ok (.iload 5, 2) := by decide +kernel
theorem d_Mo_unwinds_173 : decode b_Mo_unwinds 173 = .ok (.iload_n 2, 1) := by decide +kernel
theorem d_Mo_unwinds_174 : decode b_Mo_unwinds 174 = .ok (.iadd, 1) := by decide +kernel
theorem d_Mo_unwinds_175 : decode b_Mo_unwinds 175 = .ok (.iaload, 1) := by decide +kernel
theorem d_Mo_unwinds_176 : decode b_Mo_unwinds 176 = .ok (.istore_n 2, 1) := by decide +kernel
theorem d_Mo_unwinds_177 : decode b_Mo_unwinds 177 = .ok (.goto (-173), 3) := by decide +kernel
theorem d_Mo_unwinds_180 : decode b_Mo_unwinds 180 = .ok (.return_, 1) := by decide +kernel
theorem d_Mo_count_0 : decode b_Mo_count 0 = .ok (.aload_n 0, 1) := by decide +kernel
theorem d_Mo_count_1 : decode b_Mo_count 1 = .ok (.iload_n 1, 1) := by decide +kernel
theorem d_Mo_count_2 : decode b_Mo_count 2 = .ok (.iconst 0, 1) := by decide +kernel
theorem d_Mo_count_3 : decode b_Mo_count 3 = .ok (.iconst 5, 1) := by decide +kernel
theorem d_Mo_count_4 : decode b_Mo_count 4 = .ok (.invokestatic 104, 3) := by decide +kernel
theorem d_Mo_count_7 : decode b_Mo_count 7 = .ok (.iconst 0, 1) := by decide +kernel
theorem d_Mo_count_8 : decode b_Mo_count 8 = .ok (.invokevirtual 108, 3) := by decide +kernel
theorem d_Mo_count_11 : decode b_Mo_count 11 = .ok (.ifCond .eq 7, 3) := by decide +kernel
theorem d_Mo_count_14 : decode b_Mo_count 14 = .ok (.iconst 0, 1) := by decide +kernel
theorem d_Mo_count_15 : decode b_Mo_count 15 = .ok (.goto 9, 3) := by decide +kernel
theorem d_Mo_count_18 : decode b_Mo_count 18 = .ok (.aload_n 0, 1) := by decide +kernel
theorem d_Mo_count_19 : decode b_Mo_count 19 = .ok (.getfield 95, 3) := by decide +kernel
theorem d_Mo_count_22 : decode b_Mo_count 22 = .ok (.iload_n 1, 1) := by decide +kernel
theorem d_Mo_count_23 : decode b_Mo_count 23 = .ok (.iaload, 1) := by decide +kernel
theorem d_Mo_count_24 : decode b_Mo_count 24 = .ok (.ireturn, 1) := by decide +kernel
theorem d_Mo_out_0 : decode b_Mo_out 0 = .ok (.aload_n 0, 1) := by decide +kernel
theorem d_Mo_out_1 : decode b_Mo_out 1 = .ok (.iload_n 1, 1) := by decide +kernel
theorem d_Mo_out_2 : decode b_Mo_out 2 = .ok (.iconst 0, 1) := by decide +kernel
theorem d_Mo_out_3 : decode b_Mo_out 3 = .ok (.aload_n 0, 1) := by decide +kernel
theorem d_Mo_out_4 : decode b_Mo_out 4 = .ok (.getfield 95, 3) := by decide +kernel
theorem d_Mo_out_7 : decode b_Mo_out 7 = .ok (.iconst 0, 1) := by decide +kernel
theorem d_Mo_out_8 : decode b_Mo_out 8 = .ok (.iaload, 1) := by decide +kernel
theorem d_Mo_out_9 : decode b_Mo_out 9 = .ok (.iconst 1, 1) := by decide +kernel
theorem d_Mo_out_10 : decode b_Mo_out 10 = .ok (.isub, 1) := by decide +kernel
theorem d_Mo_out_11 : decode b_Mo_out 11 = .ok (.invokestatic 104, 3) := by decide +kernel
theorem d_Mo_out_14 : decode b_Mo_out 14 = .ok (.iconst 0, 1) := by decide +kernel
theorem d_Mo_out_15 : decode b_Mo_out 15 = .ok (.invokevirtual 108, 3) := by decide +kernel
theorem d_Mo_out_18 : decode b_Mo_out 18 = .ok (.ifCond .eq 7, 3) := by decide +kernel
theorem d_Mo_out_21 : decode b_Mo_out 21 = .ok (.iconst 0, 1) := by decide +kernel
theorem d_Mo_out_22 : decode b_Mo_out 22 = .ok (.goto 9, 3) := by decide +kernel
theorem d_Mo_out_25 : decode b_Mo_out 25 = .ok (.aload_n 0, 1) := by decide +kernel
theorem d_Mo_out_26 : decode b_Mo_out 26 = .ok (.getfield 98, 3) := by decide +kernel
theorem d_Mo_out_29 : decode b_Mo_out 29 = .ok (.iload_n 1, 1) := by decide +kernel
theorem d_Mo_out_30 : decode b_Mo_out 30 = .ok (.iaload, 1) := by decide +kernel
theorem d_Mo_out_31 : decode b_Mo_out 31 = .ok (.ireturn, 1) := by decide +kernel
