theorem d_Mo_init_0 : decode b_Mo_init 0 = .ok (.aload_n 0, 1) := by decide +kernel
theorem d_Mo_init_1 : decode b_Mo_init 1 = .ok (.invokespecial 1, 3) := by decide +kernel
theorem d_Mo_init_4 : decode b_Mo_init 4 = .ok (.aload_n 0, 1) := by decide +kernel
theorem d_Mo_init_5 : decode b_Mo_init 5 = .ok (.iconst 1, 1) := by decide +kernel
theorem d_Mo_init_6 : decode b_Mo_init 6 = .ok (.putfield 7, 3) := by decide +kernel
theorem d_Mo_init_9 : decode b_Mo_init 9 = .ok (.aload_n 0, 1) := by decide +kernel
theorem d_Mo_init_10 : decode b_Mo_init 10 = .ok (.bipush 8, 2) := by decide +kernel
theorem d_Mo_init_12 : decode b_Mo_init 12 = .ok (.newarray .int, 2) := by decide +kernel
theorem d_Mo_init_14 : decode b_Mo_init 14 = .ok (.dup, 1) := by decide +kernel
theorem d_Mo_init_15 : decode b_Mo_init 15 = .ok (.iconst 0, 1) := by decide +kernel
theorem d_Mo_init_16 : decode b_Mo_init 16 = .ok (.iconst (-1), 1) := by decide +kernel
theorem d_Mo_init_17 : decode b_Mo_init 17 = .ok (.iastore, 1) := by decide +kernel
theorem d_Mo_init_18 : decode b_Mo_init 18 = .ok (.dup, 1) := by decide +kernel
theorem d_Mo_init_19 : decode b_Mo_init 19 = .ok (.iconst 1, 1) := by decide +kernel
theorem d_Mo_init_20 : decode b_Mo_init 20 = .ok (.iconst 0, 1) := by decide +kernel
theorem d_Mo_init_21 : decode b_Mo_init 21 = .ok (.iastore, 1) := by decide +kernel
theorem d_Mo_init_22 : decode b_Mo_init 22 = .ok (.dup, 1) := by decide +kernel
theorem d_Mo_init_23 : decode b_Mo_init 23 = .ok (.iconst 2, 1) := by decide +kernel
theorem d_Mo_init_24 : decode b_Mo_init 24 = .ok (.iconst 0, 1) := by decide +kernel
theorem d_Mo_init_25 : decode b_Mo_init 25 = .ok (.iastore, 1) := by decide +kernel
theorem d_Mo_init_26 : decode b_Mo_init 26 = .ok (.dup, 1) := by decide +kernel
theorem d_Mo_init_27 : decode b_Mo_init 27 = .ok (.iconst 3, 1) := by decide +kernel
theorem d_Mo_init_28 : decode b_Mo_init 28 = .ok (.iconst 0, 1) := by decide +kernel
theorem d_Mo_init_29 : decode b_Mo_init 29 = .ok (.iastore, 1) := by decide +kernel
theorem d_Mo_init_30 : decode b_Mo_init 30 = .ok (.dup, 1) := by decide +kernel
theorem d_Mo_init_31 : decode b_Mo_init 31 = .ok (.iconst 4, 1) := by decide +kernel
theorem d_Mo_init_32 : decode b_Mo_init 32 = .ok (.iconst 0, 1) := by decide +kernel
theorem d_Mo_init_33 : decode b_Mo_init 33 = .ok (.iastore, 1) := by decide +kernel
theorem d_Mo_init_34 : decode b_Mo_init 34 = .ok (.dup, 1) := by decide +kernel
theorem d_Mo_init_35 : decode b_Mo_init 35 = .ok (.iconst 5, 1) := by decide +kernel
theorem d_Mo_init_36 : decode b_Mo_init 36 = .ok (.iconst 0, 1) := by decide +kernel
theorem d_Mo_init_37 : decode b_Mo_init 37 = .ok (.iastore, 1) := by decide +kernel
theorem d_Mo_init_38 : decode b_Mo_init 38 = .ok (.dup, 1) := by decide +kernel
theorem d_Mo_init_39 : decode b_Mo_init 39 = .ok (.bipush 6, 2) := by decide +kernel
theorem d_Mo_init_41 : decode b_Mo_init 41 = .ok (.iconst 0, 1) := by decide +kernel
theorem d_Mo_init_42 : decode b_Mo_init 42 = .ok (.iastore, 1) := by decide +kernel
theorem d_Mo_init_43 : decode b_Mo_init 43 = .ok (.dup, 1) := by decide +kernel
theorem d_Mo_init_44 : decode b_Mo_init 44 = .ok (.bipush 7, 2) := by decide +kernel
theorem d_Mo_init_46 : decode b_Mo_init 46 = .ok (.iconst 0, 1) := by decide +kernel
theorem d_Mo_init_47 : decode b_Mo_init 47 = .ok (.iastore, 1) := by decide +kernel
theorem d_Mo_init_48 : decode b_Mo_init 48 = .ok (.putfield 13, 3) := by decide +kernel
theorem d_Mo_init_51 : decode b_Mo_init 51 = .ok (.aload_n 0, 1) := by decide +kernel
theorem d_Mo_init_52 : decode b_Mo_init 52 = .ok (.bipush 6, 2) := by decide +kernel
theorem d_Mo_init_54 : decode b_Mo_init 54 = .ok (.newarray .int, 2) := by decide +kernel
theorem d_Mo_init_56 : decode b_Mo_init 56 = .ok (.putfield 17, 3) := by decide +kernel
theorem d_Mo_init_59 : decode b_Mo_init 59 = .ok (.aload_n 0, 1) := by decide +kernel
theorem d_Mo_init_60 : decode b_Mo_init 60 = .ok (.bipush 120, 2) := by decide +kernel
theorem d_Mo_init_62 : decode b_Mo_init 62 = .ok (.newarray .int, 2) := by decide +kernel
theorem d_Mo_init_64 : decode b_Mo_init 64 = .ok (.putfield 20, 3) := by decide +kernel
theorem d_Mo_init_67 : decode b_Mo_init 67 = .ok (.aload_n 0, 1) := by decide +kernel
theorem d_Mo_init_68 : decode b_Mo_init 68 = .ok (.bipush 120, 2) := by decide +kernel
theorem d_Mo_init_70 : decode b_Mo_init 70 = .ok (.newarray .int, 2) := by decide +kernel
theorem d_Mo_init_72 : decode b_Mo_init 72 = .ok (.putfield 23, 3) := by decide +kernel
theorem d_Mo_init_75 : decode b_Mo_init 75 = .ok (.aload_n 0, 1) := by decide +kernel
theorem d_Mo_init_76 : decode b_Mo_init 76 = .ok (.bipush 6, 2) := by decide +kernel
theorem d_Mo_init_78 : decode b_Mo_init 78 = .ok (.newarray .int, 2) := by decide +kernel
theorem d_Mo_init_80 : decode b_Mo_init 80 = .ok (.putfield 26, 3) := by decide +kernel
theorem d_Mo_init_83 : decode b_Mo_init 83 = .ok (.aload_n 0, 1) := by decide +kernel
theorem d_Mo_init_84 : decode b_Mo_init 84 = .ok (.sipush 768, 3) := by decide +kernel
theorem d_Mo_init_87 : decode b_Mo_init 87 = .ok (.newarray .int, 2) := by decide +kernel
theorem d_Mo_init_89 : decode b_Mo_init 89 = .ok (.putfield 29, 3) := by decide +kernel
theorem d_Mo_init_92 : decode b_Mo_init 92 = .ok (.aload_n 0, 1) := by decide +kernel
theorem d_Mo_init_93 : decode b_Mo_init 93 = .ok (.sipush 768, 3) := by decide +kernel
theorem d_Mo_init_96 : decode b_Mo_init 96 = .ok (.newarray .int, 2) := by decide +kernel
theorem d_Mo_init_98 : decode b_Mo_init 98 = .ok (.putfield 32, 3) := by decide +kernel
theorem d_Mo_init_101 : decode b_Mo_init 101 = .ok (.aload_n 0, 1) := by decide +kernel
theorem d_Mo_init_102 : decode b_Mo_init 102 = .ok (.sipush 768, 3) := by decide +kernel
theorem d_Mo_init_105 : decode b_Mo_init 105 = .ok (.newarray .int, 2) := by decide +kernel
theorem d_Mo_init_107 : decode b_Mo_init 107 = .ok (.putfield 35, 3) := by decide +kernel
theorem d_Mo_init_110 : decode b_Mo_init 110 = .ok (.aload_n 0, 1) := by decide +kernel
theorem d_Mo_init_111 : decode b_Mo_init 111 = .ok (.bipush 6, 2) := by decide +kernel
theorem d_Mo_init_113 : decode b_Mo_init 113 = .ok (.newarray .int, 2) := by decide +kernel
theorem d_Mo_init_115 : decode b_Mo_init 115 = .ok (.putfield 38, 3) := by decide +kernel
theorem d_Mo_init_118 : decode b_Mo_init 118 = .ok (.aload_n 0, 1) := by decide +kernel
theorem d_Mo_init_119 : decode b_Mo_init 119 = .ok (.sipush 288, 3) := by decide +kernel
theorem d_Mo_init_122 : decode b_Mo_init 122 = .ok (.newarray .int, 2) := by decide +kernel
theorem d_Mo_init_124 : decode b_Mo_init 124 = .ok (.putfield 41, 3) := by decide +kernel
theorem d_Mo_init_127 : decode b_Mo_init 127 = .ok (.aload_n 0, 1) := by decide +kernel
theorem d_Mo_init_128 : decode b_Mo_init 128 = .ok (.sipush 288, 3) := by decide +kernel
theorem d_Mo_init_131 : decode b_Mo_init 131 = .ok (.newarray .int, 2) := by decide +kernel
theorem d_Mo_init_133 : decode b_Mo_init 133 = .ok (.putfield 44, 3) := by decide +kernel
theorem d_Mo_init_136 : decode b_Mo_init 136 = .ok (.aload_n 0, 1) := by decide +kernel
theorem d_Mo_init_137 : decode b_Mo_init 137 = .ok (.sipush 288, 3) := by decide +kernel
theorem d_Mo_init_140 : decode b_Mo_init 140 = .ok (.newarray .int, 2) := by decide +kernel
theorem d_Mo_init_142 : decode b_Mo_init 142 = .ok (.putfield 47, 3) := by decide +kernel
theorem d_Mo_init_145 : decode b_Mo_init 145 = .ok (.aload_n 0, 1) := by decide +kernel
theorem d_Mo_init_146 : decode b_Mo_init 146 = .ok (.bipush 6, 2) := by decide +kernel
theorem d_Mo_init_148 : decode b_Mo_init 148 = .ok (.newarray .int, 2) := by decide +kernel
theorem d_Mo_init_150 : decode b_Mo_init 150 = .ok (.putfield 50, 3) := by decide +kernel
theorem d_Mo_init_153 : decode b_Mo_init 153 = .ok (.aload_n 0, 1) := by decide +kernel
theorem d_Mo_init_154 : decode b_Mo_init 154 = .ok (.sipush 384, 3) := by decide +kernel
theorem d_Mo_init_157 : decode b_Mo_init 157 = .ok (.newarray .int, 2) := by decide +kernel
theorem d_Mo_init_159 : decode b_Mo_init 159 = .ok (.putfield 53, 3) := by decide +kernel
theorem d_Mo_init_162 : decode b_Mo_init 162 = .ok (.aload_n 0, 1) := by decide +kernel
theorem d_Mo_init_163 : decode b_Mo_init 163 = .ok (.sipush 384, 3) := by decide +kernel
theorem d_Mo_init_166 : decode b_Mo_init 166 = .ok (.newarray .int, 2) := by decide +kernel
theorem d_Mo_init_168 : decode b_Mo_init 168 = .ok (.putfield 56, 3) := by decide +kernel
theorem d_Mo_init_171 : decode b_Mo_init 171 = .ok (.aload_n 0, 1) := by decide +kernel
theorem d_Mo_init_172 : decode b_Mo_init 172 = .ok (.sipush 384, 3) := by decide +kernel
theorem d_Mo_init_175 : decode b_Mo_init 175 = .ok (.newarray .int, 2) := by decide +kernel
theorem d_Mo_init_177 : decode b_Mo_init 177 = .ok (.putfield 59, 3) := by decide +kernel
theorem d_Mo_init_180 : decode b_Mo_init 180 = .ok (.aload_n 0, 1) := by decide +kernel
theorem d_Mo_init_181 : decode b_Mo_init 181 = .ok (.bipush 7, 2) := by decide +kernel
theorem d_Mo_init_183 : decode b_Mo_init 183 = .ok (.newarray .int, 2) := by decide +kernel
theorem d_Mo_init_185 : decode b_Mo_init 185 = .ok (.putfield 62, 3) := by decide +kernel
theorem d_Mo_init_188 : decode b_Mo_init 188 = .ok (.aload_n 0, 1) := by decide +kernel
theorem d_Mo_init_189 : decode b_Mo_init 189 = .ok (.bipush 7, 2) := by decide +kernel
theorem d_Mo_init_191 : decode b_Mo_init 191 = .ok (.newarray .int, 2) := by decide +kernel
theorem d_Mo_init_193 : decode b_Mo_init 193 = .ok (.putfield 65, 3) := by decide +kernel
theorem d_Mo_init_196 : decode b_Mo_init 196 = .ok (.aload_n 0, 1) := by decide +kernel
theorem d_Mo_init_197 : decode b_Mo_init 197 = .ok (.bipush 7, 2) := by decide +kernel
theorem d_Mo_init_199 : decode b_Mo_init 199 = .ok (.newarray .int, 2) := by decide +kernel
theorem d_Mo_init_201 : decode b_Mo_init 201 = .ok (.putfield 68, 3) := by decide +kernel
theorem d_Mo_init_204 : decode b_Mo_init 204 = .ok (.aload_n 0, 1) := by decide +kernel
theorem d_Mo_init_205 : decode b_Mo_init 205 = .ok (.bipush 7, 2) := by decide +kernel
theorem d_Mo_init_207 : decode b_Mo_init 207 = .ok (.newarray .int, 2) := by decide +kernel
theorem d_Mo_init_209 : decode b_Mo_init 209 = .ok (.putfield 71, 3) := by decide +kernel
theorem d_Mo_init_212 : decode b_Mo_init 212 = .ok (.aload_n 0, 1) := by decide +kernel
theorem d_Mo_init_213 : decode b_Mo_init 213 = .ok (.bipush 7, 2) := by decide +kernel
theorem d_Mo_init_215 : decode b_Mo_init 215 = .ok (.newarray .int, 2) := by decide +kernel
theorem d_Mo_init_217 : decode b_Mo_init 217 = .ok (.putfield 74, 3) := by decide +kernel
theorem d_Mo_init_220 : decode b_Mo_init 220 = .ok (.aload_n 0, 1) := by decide +kernel
theorem d_Mo_init_221 : decode b_Mo_init 221 = .ok (.bipush 7, 2) := by decide +kernel
theorem d_Mo_init_223 : decode b_Mo_init 223 = .ok (.newarray .int, 2) := by decide +kernel
theorem d_Mo_init_225 : decode b_Mo_init 225 = .ok (.putfield 77, 3) := by decide +kernel
theorem d_Mo_init_228 : decode b_Mo_init 228 = .ok (.aload_n 0, 1) := by decide +kernel
theorem d_Mo_init_229 : decode b_Mo_init 229 = .ok (.bipush 8, 2) := by decide +kernel
theorem d_Mo_init_231 : decode b_Mo_init 231 = .ok (.newarray .int, 2) := by decide +kernel
theorem d_Mo_init_233 : decode b_Mo_init 233 = .ok (.putfield 80, 3) := by decide +kernel
theorem d_Mo_init_236 : decode b_Mo_init 236 = .ok (.aload_n 0, 1) := by decide +kernel
theorem d_Mo_init_237 : decode b_Mo_init 237 = .ok (.bipush 8, 2) := by decide +kernel
theorem d_Mo_init_239 : decode b_Mo_init 239 = .ok (.newarray .int, 2) := by decide +kernel
theorem d_Mo_init_241 : decode b_Mo_init 241 = .ok (.putfield 83, 3) := by decide +kernel
theorem d_Mo_init_244 : decode b_Mo_init 244 = .ok (.aload_n 0, 1) := by decide +kernel
theorem d_Mo_init_245 : decode b_Mo_init 245 = .ok (.bipush 8, 2) := by decide +kernel
theorem d_Mo_init_247 : decode b_Mo_init 247 = .ok (.newarray .int, 2) := by decide +kernel
theorem d_Mo_init_249 : decode b_Mo_init 249 = .ok (.putfield 86, 3) := by decide +kernel
theorem d_Mo_init_252 : decode b_Mo_init 252 = .ok (.aload_n 0, 1) := by decide +kernel
theorem d_Mo_init_253 : decode b_Mo_init 253 = .ok (.bipush 8, 2) := by decide +kernel
theorem d_Mo_init_255 : decode b_Mo_init 255 = .ok (.newarray .int, 2) := by decide +kernel
theorem d_Mo_init_257 : decode b_Mo_init 257 = .ok (.putfield 89, 3) := by decide +kernel
theorem d_Mo_init_260 : decode b_Mo_init 260 = .ok (.aload_n 0, 1) := by decide +kernel
theorem d_Mo_init_261 : decode b_Mo_init 261 = .ok (.sipush 192, 3) := by decide +kernel
theorem d_Mo_init_264 : decode b_Mo_init 264 = .ok (.newarray .int, 2) := by decide +kernel
theorem d_Mo_init_266 : decode b_Mo_init 266 = .ok (.putfield 92, 3) := by decide +kernel
theorem d_Mo_init_269 : decode b_Mo_init 269 = .ok (.aload_n 0, 1) := by decide +kernel
theorem d_Mo_init_270 : decode b_Mo_init 270 = .ok (.bipush 6, 2) := by decide +kernel
theorem d_Mo_init_272 : decode b_Mo_init 272 = .ok (.newarray .int, 2) := by decide +kernel
theorem d_Mo_init_274 : decode b_Mo_init 274 = .ok (.dup, 1) := by decide +kernel
theorem d_Mo_init_275 : decode b_Mo_init 275 = .ok (.iconst 0, 1) := by decide +kernel
theorem d_Mo_init_276 : decode b_Mo_init 276 = .ok (.iconst 0, 1) := by decide +kernel
theorem d_Mo_init_277 : decode b_Mo_init 277 = .ok (.iastore, 1) := by decide +kernel
theorem d_Mo_init_278 : decode b_Mo_init 278 = .ok (.dup, 1) := by decide +kernel
theorem d_Mo_init_279 : decode b_Mo_init 279 = .ok (.iconst 1, 1) := by decide +kernel
theorem d_Mo_init_280 : decode b_Mo_init 280 = .ok (.iconst 0, 1) := by decide +kernel
theorem d_Mo_init_281 : decode b_Mo_init 281 = .ok (.iastore, 1) := by decide +kernel
theorem d_Mo_init_282 : decode b_Mo_init 282 = .ok (.dup, 1) := by decide +kernel
theorem d_Mo_init_283 : decode b_Mo_init 283 = .ok (.iconst 2, 1) := by decide +kernel
theorem d_Mo_init_284 : decode b_Mo_init 284 = .ok (.iconst 0, 1) := by decide +kernel
theorem d_Mo_init_285 : decode b_Mo_init 285 = .ok (.iastore, 1) := by decide +kernel
theorem d_Mo_init_286 : decode b_Mo_init 286 = .ok (.dup, 1) := by decide +kernel
theorem d_Mo_init_287 : decode b_Mo_init 287 = .ok (.iconst 3, 1) := by decide +kernel
theorem d_Mo_init_288 : decode b_Mo_init 288 = .ok (.iconst 0, 1) := by decide +kernel
theorem d_Mo_init_289 : decode b_Mo_init 289 = .ok (.iastore, 1) := by decide +kernel
theorem d_Mo_init_290 : decode b_Mo_init 290 = .ok (.dup, 1) := by decide +kernel
theorem d_Mo_init_291 : decode b_Mo_init 291 = .ok (.iconst 4, 1) := by decide +kernel
theorem d_Mo_init_292 : decode b_Mo_init 292 = .ok (.iconst 0, 1) := by decide +kernel
theorem d_Mo_init_293 : decode b_Mo_init 293 = .ok (.iastore, 1) := by decide +kernel
theorem d_Mo_init_294 : decode b_Mo_init 294 = .ok (.dup, 1) := by decide +kernel
theorem d_Mo_init_295 : decode b_Mo_init 295 = .ok (.iconst 5, 1) := by decide +kernel
theorem d_Mo_init_296 : decode b_Mo_init 296 = .ok (.iconst (-1), 1) := by decide +kernel
theorem d_Mo_init_297 : decode b_Mo_init 297 = .ok (.iastore, 1) := by decide +kernel
theorem d_Mo_init_298 : decode b_Mo_init 298 = .ok (.putfield 95, 3) := by decide +kernel
theorem d_Mo_init_301 : decode b_Mo_init 301 = .ok (.aload_n 0, 1) := by decide +kernel
theorem d_Mo_init_302 : decode b_Mo_init 302 = .ok (.bipush 60, 2) := by decide +kernel
theorem d_Mo_init_304 : decode b_Mo_init 304 = .ok (.newarray .int, 2) := by decide +kernel
theorem d_Mo_init_306 : decode b_Mo_init 306 = .ok (.putfield 98, 3) := by decide +kernel
theorem d_Mo_init_309 : decode b_Mo_init 309 = .ok (.return_, 1) := by decide +kernel
theorem d_Mo_thrown_0 : decode b_Mo_thrown 0 = .ok (.aload_n 0, 1) := by decide +kernel
theorem d_Mo_thrown_1 : decode b_Mo_thrown 1 = .ok (.getfield 101, 3) := by decide +kernel
theorem d_Mo_thrown_4 : decode b_Mo_thrown 4 = .ok (.ireturn, 1) := by decide +kernel
theorem d_Mo_type_0 : decode b_Mo_type 0 = .ok (.aload_n 0, 1) := by decide +kernel
theorem d_Mo_type_1 : decode b_Mo_type 1 = .ok (.iload_n 1, 1) := by decide +kernel
theorem d_Mo_type_2 : decode b_Mo_type 2 = .ok (.iconst (-1), 1) := by decide +kernel
theorem d_Mo_type_3 : decode b_Mo_type 3 = .ok (.aload_n 0, 1) := by decide +kernel
theorem d_Mo_type_4 : decode b_Mo_type 4 = .ok (.getfield 7, 3) := by decide +kernel
theorem d_Mo_type_7 : decode b_Mo_type 7 = .ok (.iconst 1, 1) := by decide +kernel
theorem d_Mo_type_8 : decode b_Mo_type 8 = .ok (.isub, 1) := by decide +kernel
theorem d_Mo_type_9 : decode b_Mo_type 9 = .ok (.invokestatic 104, 3) := by decide +kernel
theorem d_Mo_type_12 : decode b_Mo_type 12 = .ok (.aload_n 0, 1) := by decide +kernel
theorem d_Mo_type_13 : decode b_Mo_type 13 = .ok (.getfield 7, 3) := by decide +kernel
theorem d_Mo_type_16 : decode b_Mo_type 16 = .ok (.bipush 8, 2) := by decide +kernel
theorem d_Mo_type_18 : decode b_Mo_type 18 = .ok (.if_icmp .ne 7, 3) := by decide +kernel
theorem d_Mo_type_21 : decode b_Mo_type 21 = .ok (.iconst 1, 1) := by decide +kernel
theorem d_Mo_type_22 : decode b_Mo_type 22 = .ok (.goto 4, 3) := by decide +kernel
theorem d_Mo_type_25 : decode b_Mo_type 25 = .ok (.iconst 0, 1) := by decide +kernel
theorem d_Mo_type_26 : decode b_Mo_type 26 = .ok (.invokevirtual 108, 3) := by decide +kernel
theorem d_Mo_type_29 : decode b_Mo_type 29 = .ok (.ifCond .eq 5, 3) := by decide +kernel
theorem d_Mo_type_32 : decode b_Mo_type 32 = .ok (.iconst 0, 1) := by decide +kernel
theorem d_Mo_type_33 : decode b_Mo_type 33 = .ok (.ireturn, 1) := by decide +kernel
theorem d_Mo_type_34 : decode b_Mo_type 34 = .ok (.aload_n 0, 1) := by decide +kernel
theorem d_Mo_type_35 : decode b_Mo_type 35 = .ok (.getfield 13, 3) := by decide +kernel
theorem d_Mo_type_38 : decode b_Mo_type 38 = .ok (.aload_n 0, 1) := by decide +kernel
theorem d_Mo_type_39 : decode b_Mo_type 39 = .ok (.getfield 7, 3) := by decide +kernel
theorem d_Mo_type_42 : decode b_Mo_type 42 = .ok (.iload_n 1, 1) := by decide +kernel
theorem d_Mo_type_43 : decode b_Mo_type 43 = .ok (.iastore, 1) := by decide +kernel
theorem d_Mo_type_44 : decode b_Mo_type 44 = .ok (.aload_n 0, 1) := by decide +kernel
theorem d_Mo_type_45 : decode b_Mo_type 45 = .ok (.dup, 1) := by decide +kernel
theorem d_Mo_type_46 : decode b_Mo_type 46 = .ok (.getfield 7, 3) := by decide +kernel
theorem d_Mo_type_49 : decode b_Mo_type 49 = .ok (.iconst 1, 1) := by decide +kernel
theorem d_Mo_type_50 : decode b_Mo_type 50 = .ok (.iadd, 1) := by decide +kernel
theorem d_Mo_type_51 : decode b_Mo_type 51 = .ok (.putfield 7, 3) := by decide +kernel
theorem d_Mo_type_54 : decode b_Mo_type 54 = .ok (.aload_n 0, 1) := by decide +kernel
theorem d_Mo_type_55 : decode b_Mo_type 55 = .ok (.getfield 7, 3) := by decide +kernel
theorem d_Mo_type_58 : decode b_Mo_type 58 = .ok (.iconst 1, 1) := by decide +kernel
theorem d_Mo_type_59 : decode b_Mo_type 59 = .ok (.isub, 1) := by decide +kernel
theorem d_Mo_type_60 : decode b_Mo_type 60 = .ok (.ireturn, 1) := by decide +kernel
theorem d_Mo_outside_0 : decode b_Mo_outside 0 = .ok (.iload_n 0, 1) := by decide +kernel
theorem d_Mo_outside_1 : decode b_Mo_outside 1 = .ok (.iload_n 1, 1) := by decide +kernel
theorem d_Mo_outside_2 : decode b_Mo_outside 2 = .ok (.if_icmp .lt 8, 3) := by decide +kernel
theorem d_Mo_outside_5 : decode b_Mo_outside 5 = .ok (.iload_n 0, 1) := by decide +kernel
theorem d_Mo_outside_6 : decode b_Mo_outside 6 = .ok (.iload_n 2, 1) := by decide +kernel
theorem d_Mo_outside_7 : decode b_Mo_outside 7 = .ok (.if_icmp .le 7, 3) := by decide +kernel
theorem d_Mo_outside_10 : decode b_Mo_outside 10 = .ok (.iconst 1, 1) := by decide +kernel
theorem d_Mo_outside_11 : decode b_Mo_outside 11 = .ok (.goto 4, 3) := by decide +kernel
theorem d_Mo_outside_14 : decode b_Mo_outside 14 = .ok (.iconst 0, 1) := by decide +kernel
theorem d_Mo_outside_15 : decode b_Mo_outside 15 = .ok (.ireturn, 1) := by decide +kernel
theorem d_Mo_fails_0 : decode b_Mo_fails 0 = .ok (.aload_n 0, 1) := by decide +kernel
theorem d_Mo_fails_1 : decode b_Mo_fails 1 = .ok (.iload_n 1, 1) := by decide +kernel
theorem d_Mo_fails_2 : decode b_Mo_fails 2 = .ok (.ifCond .eq 7, 3) := by decide +kernel
theorem d_Mo_fails_5 : decode b_Mo_fails 5 = .ok (.iconst 1, 1) := by decide +kernel
theorem d_Mo_fails_6 : decode b_Mo_fails 6 = .ok (.goto 12, 3) := by decide +kernel
theorem d_Mo_fails_9 : decode b_Mo_fails 9 = .ok (.iload_n 2, 1) := by decide +kernel
theorem d_Mo_fails_10 : decode b_Mo_fails 10 = .ok (.ifCond .eq 7, 3) := by decide +kernel
theorem d_Mo_fails_13 : decode b_Mo_fails 13 = .ok (.iconst 2, 1) := by decide +kernel
theorem d_Mo_fails_14 : decode b_Mo_fails 14 = .ok (.goto 4, 3) := by decide +kernel
theorem d_Mo_fails_17 : decode b_Mo_fails 17 = .ok (.iconst 0, 1) := by decide +kernel
theorem d_Mo_fails_18 : decode b_Mo_fails 18 = .ok (.putfield 101, 3) := by decide +kernel
theorem d_Mo_fails_21 : decode b_Mo_fails 21 = .ok (.aload_n 0, 1) := by decide +kernel
theorem d_Mo_fails_22 : decode b_Mo_fails 22 = .ok (.getfield 101, 3) := by decide +kernel
theorem d_Mo_fails_25 : decode b_Mo_fails 25 = .ok (.ifCond .le 7, 3) := by decide +kernel
theorem d_Mo_fails_28 : decode b_Mo_fails 28 = .ok (.iconst 1, 1) := by decide +kernel
theorem d_Mo_fails_29 : decode b_Mo_fails 29 = .ok (.goto 4, 3) := by decide +kernel
theorem d_Mo_fails_32 : decode b_Mo_fails 32 = .ok (.iconst 0, 1) := by decide +kernel
theorem d_Mo_fails_33 : decode b_Mo_fails 33 = .ok (.ireturn, 1) := by decide +kernel
theorem d_Mo_add_0 : decode b_Mo_add 0 = .ok (.iload_n 1, 1) := by decide +kernel
theorem d_Mo_add_1 : decode b_Mo_add 1 = .ok (.iconst 0, 1) := by decide +kernel
theorem d_Mo_add_2 : decode b_Mo_add 2 = .ok (.iconst 5, 1) := by decide +kernel
theorem d_Mo_add_3 : decode b_Mo_add 3 = .ok (.invokestatic 104, 3) := by decide +kernel
theorem d_Mo_add_6 : decode b_Mo_add 6 = .ok (.ifCond .ne 12, 3) := by decide +kernel
theorem d_Mo_add_9 : decode b_Mo_add 9 = .ok (.aload_n 0, 1) := by decide +kernel
theorem d_Mo_add_10 : decode b_Mo_add 10 = .ok (.iload_n 2, 1) := by decide +kernel
theorem d_Mo_add_11 : decode b_Mo_add 11 = .ok (.iload_n 3, 1) := by decide +kernel
theorem d_Mo_add_12 : decode b_Mo_add 12 = .ok (.invokevirtual 112, 3) := by decide +kernel
theorem d_Mo_add_15 : decode b_Mo_add 15 = .ok (.ifCond .ne 7, 3) := by decide +kernel
theorem d_Mo_add_18 : decode b_Mo_add 18 = .ok (.iconst 1, 1) := by decide +kernel
theorem d_Mo_add_19 : decode b_Mo_add 19 = .ok (.goto 4, 3) := by decide +kernel
theorem d_Mo_add_22 : decode b_Mo_add 22 = .ok (.iconst 0, 1) := by decide +kernel
theorem d_Mo_add_23 : decode b_Mo_add 23 = .ok (.istore 4, 2) := by decide +kernel
theorem d_Mo_add_25 : decode b_Mo_add 25 = .ok (.aload_n 0, 1) := by decide +kernel
theorem d_Mo_add_26 : decode b_Mo_add 26 = .ok (.iload 4, 2) := by decide +kernel
theorem d_Mo_add_28 : decode b_Mo_add 28 = .ok (.iload 4, 2) := by decide +kernel
theorem d_Mo_add_30 : decode b_Mo_add 30 = .ok (.ifCond .ne 18, 3) := by decide +kernel
theorem d_Mo_add_33 : decode b_Mo_add 33 = .ok (.aload_n 0, 1) := by decide +kernel
theorem d_Mo_add_34 : decode b_Mo_add 34 = .ok (.getfield 17, 3) := by decide +kernel
theorem d_Mo_add_37 : decode b_Mo_add 37 = .ok (.iload_n 1, 1) := by decide +kernel
theorem d_Mo_add_38 : decode b_Mo_add 38 = .ok (.iaload, 1) := by decide +kernel
theorem d_Mo_add_39 : decode b_Mo_add 39 = .ok (.bipush 20, 2) := by decide +kernel
theorem d_Mo_add_41 : decode b_Mo_add 41 = .ok (.if_icmp .ne 7, 3) := by decide +kernel
theorem d_Mo_add_44 : decode b_Mo_add 44 = .ok (.iconst 1, 1) := by decide +kernel
theorem d_Mo_add_45 : decode b_Mo_add 45 = .ok (.goto 4, 3) := by decide +kernel
theorem d_Mo_add_48 : decode b_Mo_add 48 = .ok (.iconst 0, 1) := by decide +kernel
theorem d_Mo_add_49 : decode b_Mo_add 49 = .ok (.invokevirtual 108, 3) := by decide +kernel
theorem d_Mo_add_52 : decode b_Mo_add 52 = .ok (.ifCond .eq 5, 3) := by decide +kernel
theorem d_Mo_add_55 : decode b_Mo_add 55 = .ok (.iconst 0, 1) := by decide +kernel
theorem d_Mo_add_56 : decode b_Mo_add 56 = .ok (.ireturn, 1) := by decide +kernel
theorem d_Mo_add_57 : decode b_Mo_add 57 = .ok (.aload_n 0, 1) := by decide +kernel
theorem d_Mo_add_58 : decode b_Mo_add 58 = .ok (.getfield 20, 3) := by decide +kernel
theorem d_Mo_add_61 : decode b_Mo_add 61 = .ok (.bipush 20, 2) := by decide +kernel
theorem d_Mo_add_63 : decode b_Mo_add 63 = .ok (.iload_n 1, 1) := by decide +kernel
theorem d_Mo_add_64 : decode b_Mo_add 64 = .ok (.imul, 1) := by decide +kernel
theorem d_Mo_add_65 : decode b_Mo_add 65 = .ok (.aload_n 0, 1) := by decide +kernel
theorem d_Mo_add_66 : decode b_Mo_add 66 = .ok (.getfield 17, 3) := by decide +kernel
theorem d_Mo_add_69 : decode b_Mo_add 69 = .ok (.iload_n 1, 1) := by decide +kernel
theorem d_Mo_add_70 : decode b_Mo_add 70 = .ok (.iaload, 1) := by decide +kernel
theorem d_Mo_add_71 : decode b_Mo_add 71 = .ok (.iadd, 1) := by decide +kernel
theorem d_Mo_add_72 : decode b_Mo_add 72 = .ok (.iload_n 2, 1) := by decide +kernel
theorem d_Mo_add_73 : decode b_Mo_add 73 = .ok (.iastore, 1) := by decide +kernel
theorem d_Mo_add_74 : decode b_Mo_add 74 = .ok (.aload_n 0, 1) := by decide +kernel
theorem d_Mo_add_75 : decode b_Mo_add 75 = .ok (.getfield 23, 3) := by decide +kernel
theorem d_Mo_add_78 : decode b_Mo_add 78 = .ok (.bipush 20, 2) := by decide +kernel
theorem d_Mo_add_80 : decode b_Mo_add 80 = .ok (.iload_n 1, 1) := by decide +kernel
theorem d_Mo_add_81 : decode b_Mo_add 81 = .ok (.imul, 1) := by decide +kernel
theorem d_Mo_add_82 : decode b_Mo_add 82 = .ok (.aload_n 0, 1) := by decide +kernel
theorem d_Mo_add_83 : decode b_Mo_add 83 = .ok (.getfield 17, 3) := by decide +kernel
theorem d_Mo_add_86 : decode b_Mo_add 86 = .ok (.iload_n 1, 1) := by decide +kernel
theorem d_Mo_add_87 : decode b_Mo_add 87 = .ok (.iaload, 1) := by decide +kernel
theorem d_Mo_add_88 : decode b_Mo_add 88 = .ok (.iadd, 1) := by decide +kernel
theorem d_Mo_add_89 : decode b_Mo_add 89 = .ok (.iload_n 3, 1) := by decide +kernel
theorem d_Mo_add_90 : decode b_Mo_add 90 = .ok (.iastore, 1) := by decide +kernel
theorem d_Mo_add_91 : decode b_Mo_add 91 = .ok (.aload_n 0, 1) := by decide +kernel
theorem d_Mo_add_92 : decode b_Mo_add 92 = .ok (.getfield 17, 3) := by decide +kernel
theorem d_Mo_add_95 : decode b_Mo_add 95 = .ok (.iload_n 1, 1) := by decide +kernel
theorem d_Mo_add_96 : decode b_Mo_add 96 = .ok (.dup2, 1) := by decide +kernel
theorem d_Mo_add_97 : decode b_Mo_add 97 = .ok (.iaload, 1) := by decide +kernel
theorem d_Mo_add_98 : decode b_Mo_add 98 = .ok (.iconst 1, 1) := by decide +kernel
theorem d_Mo_add_99 : decode b_Mo_add 99 = .ok (.iadd, 1) := by decide +kernel
theorem d_Mo_add_100 : decode b_Mo_add 100 = .ok (.iastore, 1) := by decide +kernel
theorem d_Mo_add_101 : decode b_Mo_add 101 = .ok (.aload_n 0, 1) := by decide +kernel
theorem d_Mo_add_102 : decode b_Mo_add 102 = .ok (.getfield 17, 3) := by decide +kernel
theorem d_Mo_add_105 : decode b_Mo_add 105 = .ok (.iload_n 1, 1) := by decide +kernel
theorem d_Mo_add_106 : decode b_Mo_add 106 = .ok (.iaload, 1) := by decide +kernel
theorem d_Mo_add_107 : decode b_Mo_add 107 = .ok (.ireturn, 1) := by decide +kernel
theorem d_Mo_fits_0 : decode b_Mo_fits 0 = .ok (.iload_n 1, 1) := by decide +kernel
theorem d_Mo_fits_1 : decode b_Mo_fits 1 = .ok (.tableswitch 128 0 7 #[47, 63, 78, 118, 98, 118, 47, 118], 47) := by decide +kernel
theorem d_Mo_fits_48 : decode b_Mo_fits 48 = .ok (.iload_n 2, 1) := by decide +kernel
theorem d_Mo_fits_49 : decode b_Mo_fits 49 = .ok (.iconst 0, 1) := by decide +kernel
theorem d_Mo_fits_50 : decode b_Mo_fits 50 = .ok (.bipush 99, 2) := by decide +kernel
theorem d_Mo_fits_52 : decode b_Mo_fits 52 = .ok (.invokestatic 104, 3) := by decide +kernel
theorem d_Mo_fits_55 : decode b_Mo_fits 55 = .ok (.ifCond .ne 7, 3) := by decide +kernel
theorem d_Mo_fits_58 : decode b_Mo_fits 58 = .ok (.iconst 1, 1) := by decide +kernel
theorem d_Mo_fits_59 : decode b_Mo_fits 59 = .ok (.goto 4, 3) := by decide +kernel
theorem d_Mo_fits_62 : decode b_Mo_fits 62 = .ok (.iconst 0, 1) := by decide +kernel
theorem d_Mo_fits_63 : decode b_Mo_fits 63 = .ok (.ireturn, 1) := by decide +kernel
theorem d_Mo_fits_64 : decode b_Mo_fits 64 = .ok (.iload_n 2, 1) := by decide +kernel
theorem d_Mo_fits_65 : decode b_Mo_fits 65 = .ok (.iconst 0, 1) := by decide +kernel
theorem d_Mo_fits_66 : decode b_Mo_fits 66 = .ok (.iconst 5, 1) := by decide +kernel
theorem d_Mo_fits_67 : decode b_Mo_fits 67 = .ok (.invokestatic 104, 3) := by decide +kernel
theorem d_Mo_fits_70 : decode b_Mo_fits 70 = .ok (.ifCond .ne 7, 3) := by decide +kernel
theorem d_Mo_fits_73 : decode b_Mo_fits 73 = .ok (.iconst 1, 1) := by decide +kernel
theorem d_Mo_fits_74 : decode b_Mo_fits 74 = .ok (.goto 4, 3) := by decide +kernel
theorem d_Mo_fits_77 : decode b_Mo_fits 77 = .ok (.iconst 0, 1) := by decide +kernel
theorem d_Mo_fits_78 : decode b_Mo_fits 78 = .ok (.ireturn, 1) := by decide +kernel
theorem d_Mo_fits_79 : decode b_Mo_fits 79 = .ok (.iload_n 2, 1) := by decide +kernel
theorem d_Mo_fits_80 : decode b_Mo_fits 80 = .ok (.iconst 0, 1) := by decide +kernel
theorem d_Mo_fits_81 : decode b_Mo_fits 81 = .ok (.aload_n 0, 1) := by decide +kernel
theorem d_Mo_fits_82 : decode b_Mo_fits 82 = .ok (.getfield 7, 3) := by decide +kernel
theorem d_Mo_fits_85 : decode b_Mo_fits 85 = .ok (.iconst 1, 1) := by decide +kernel
theorem d_Mo_fits_86 : decode b_Mo_fits 86 = .ok (.isub, 1) := by decide +kernel
theorem d_Mo_fits_87 : decode b_Mo_fits 87 = .ok (.invokestatic 104, 3) := by decide +kernel
theorem d_Mo_fits_90 : decode b_Mo_fits 90 = .ok (.ifCond .ne 7, 3) := by decide +kernel
theorem d_Mo_fits_93 : decode b_Mo_fits 93 = .ok (.iconst 1, 1) := by decide +kernel
theorem d_Mo_fits_94 : decode b_Mo_fits 94 = .ok (.goto 4, 3) := by decide +kernel
theorem d_Mo_fits_97 : decode b_Mo_fits 97 = .ok (.iconst 0, 1) := by decide +kernel
theorem d_Mo_fits_98 : decode b_Mo_fits 98 = .ok (.ireturn, 1) := by decide +kernel
theorem d_Mo_fits_99 : decode b_Mo_fits 99 = .ok (.iload_n 2, 1) := by decide +kernel
theorem d_Mo_fits_100 : decode b_Mo_fits 100 = .ok (.iconst (-1), 1) := by decide +kernel
theorem d_Mo_fits_101 : decode b_Mo_fits 101 = .ok (.aload_n 0, 1) := by decide +kernel
theorem d_Mo_fits_102 : decode b_Mo_fits 102 = .ok (.getfield 7, 3) := by decide +kernel
theorem d_Mo_fits_105 : decode b_Mo_fits 105 = .ok (.iconst 1, 1) := by decide +kernel
theorem d_Mo_fits_106 : decode b_Mo_fits 106 = .ok (.isub, 1) := by decide +kernel
theorem d_Mo_fits_107 : decode b_Mo_fits 107 = .ok (.invokestatic 104, 3) := by decide +kernel
theorem d_Mo_fits_110 : decode b_Mo_fits 110 = .ok (.ifCond .ne 7, 3) := by decide +kernel
theorem d_Mo_fits_113 : decode b_Mo_fits 113 = .ok (.iconst 1, 1) := by decide +kernel
theorem d_Mo_fits_114 : decode b_Mo_fits 114 = .ok (.goto 4, 3) := by decide +kernel
theorem d_Mo_fits_117 : decode b_Mo_fits 117 = .ok (.iconst 0, 1) := by decide +kernel
theorem d_Mo_fits_118 : decode b_Mo_fits 118 = .ok (.ireturn, 1) := by decide +kernel
theorem d_Mo_fits_119 : decode b_Mo_fits 119 = .ok (.iload_n 2, 1) := by decide +kernel
theorem d_Mo_fits_120 : decode b_Mo_fits 120 = .ok (.ifCond .ne 7, 3) := by decide +kernel
theorem d_Mo_fits_123 : decode b_Mo_fits 123 = .ok (.iconst 1, 1) := by decide +kernel
theorem d_Mo_fits_124 : decode b_Mo_fits 124 = .ok (.goto 4, 3) := by decide +kernel
theorem d_Mo_fits_127 : decode b_Mo_fits 127 = .ok (.iconst 0, 1) := by decide +kernel
theorem d_Mo_fits_128 : decode b_Mo_fits 128 = .ok (.ireturn, 1) := by decide +kernel
theorem d_Mo_fits_129 : decode b_Mo_fits 129 = .ok (.iconst 0, 1) := by decide +kernel
theorem d_Mo_fits_130 : decode b_Mo_fits 130 = .ok (.ireturn, 1) := by decide +kernel
theorem d_Mo_wipe_0 : decode b_Mo_wipe 0 = .ok (.aload_n 0, 1) := by decide +kernel
theorem d_Mo_wipe_1 : decode b_Mo_wipe 1 = .ok (.iload_n 1, 1) := by decide +kernel
theorem d_Mo_wipe_2 : decode b_Mo_wipe 2 = .ok (.iconst 0, 1) := by decide +kernel
theorem d_Mo_wipe_3 : decode b_Mo_wipe 3 = .ok (.iconst 5, 1) := by decide +kernel
theorem d_Mo_wipe_4 : decode b_Mo_wipe 4 = .ok (.invokestatic 104, 3) := by decide +kernel
theorem d_Mo_wipe_7 : decode b_Mo_wipe 7 = .ok (.iconst 0, 1) := by decide +kernel
theorem d_Mo_wipe_8 : decode b_Mo_wipe 8 = .ok (.invokevirtual 108, 3) := by decide +kernel
theorem d_Mo_wipe_11 : decode b_Mo_wipe 11 = .ok (.ifCond .ne 10, 3) := by decide +kernel
theorem d_Mo_wipe_14 : decode b_Mo_wipe 14 = .ok (.aload_n 0, 1) := by decide +kernel
theorem d_Mo_wipe_15 : decode b_Mo_wipe 15 = .ok (.getfield 17, 3) := by decide +kernel
theorem d_Mo_wipe_18 : decode b_Mo_wipe 18 = .ok (.iload_n 1, 1) := by decide +kernel
theorem d_Mo_wipe_19 : decode b_Mo_wipe 19 = .ok (.iconst 0, 1) := by decide +kernel
theorem d_Mo_wipe_20 : decode b_Mo_wipe 20 = .ok (.iastore, 1) := by decide +kernel
theorem d_Mo_wipe_21 : decode b_Mo_wipe 21 = .ok (.return_, 1) := by decide +kernel
theorem d_Mo_compile_0 : decode b_Mo_compile 0 = .ok (.iload_n 1, 1) := by decide +kernel
theorem d_Mo_compile_1 : decode b_Mo_compile 1 = .ok (.iconst 0, 1) := by decide +kernel
theorem d_Mo_compile_2 : decode b_Mo_compile 2 = .ok (.iconst 5, 1) := by decide +kernel
theorem d_Mo_compile_3 : decode b_Mo_compile 3 = .ok (.invokestatic 104, 3) := by decide +kernel
theorem d_Mo_compile_6 : decode b_Mo_compile 6 = .ok (.istore_n 2, 1) := by decide +kernel
theorem d_Mo_compile_7 : decode b_Mo_compile 7 = .ok (.aload_n 0, 1) := by decide +kernel
theorem d_Mo_compile_8 : decode b_Mo_compile 8 = .ok (.iload_n 2, 1) := by decide +kernel
theorem d_Mo_compile_9 : decode b_Mo_compile 9 = .ok (.iload_n 2, 1) := by decide +kernel
theorem d_Mo_compile_10 : decode b_Mo_compile 10 = .ok (.ifCond .ne 15, 3) := by decide +kernel
theorem d_Mo_compile_13 : decode b_Mo_compile 13 = .ok (.aload_n 0, 1) := by decide +kernel
theorem d_Mo_compile_14 : decode b_Mo_compile 14 = .ok (.iload_n 1, 1) := by decide +kernel
theorem d_Mo_compile_15 : decode b_Mo_compile 15 = .ok (.invokevirtual 149, 3) := by decide +kernel
theorem d_Mo_compile_18 : decode b_Mo_compile 18 = .ok (.ifCond .ne 7, 3) := by decide +kernel
theorem d_Mo_compile_21 : decode b_Mo_compile 21 = .ok (.iconst 1, 1) := by decide +kernel
theorem d_Mo_compile_22 : decode b_Mo_compile 22 = .ok (.goto 4, 3) := by decide +kernel
theorem d_Mo_compile_25 : decode b_Mo_compile 25 = .ok (.iconst 0, 1) := by decide +kernel
theorem d_Mo_compile_26 : decode b_Mo_compile 26 = .ok (.invokevirtual 108, 3) := by decide +kernel
theorem d_Mo_compile_29 : decode b_Mo_compile 29 = .ok (.ifCond .eq 5, 3) := by decide +kernel
theorem d_Mo_compile_32 : decode b_Mo_compile 32 = .ok (.iconst 0, 1) := by decide +kernel
theorem d_Mo_compile_33 : decode b_Mo_compile 33 = .ok (.ireturn, 1) := by decide +kernel
theorem d_Mo_compile_34 : decode b_Mo_compile 34 = .ok (.aload_n 0, 1) := by decide +kernel
theorem d_Mo_compile_35 : decode b_Mo_compile 35 = .ok (.getfield 26, 3) := by decide +kernel
theorem d_Mo_compile_38 : decode b_Mo_compile 38 = .ok (.iload_n 1, 1) := by decide +kernel
theorem d_Mo_compile_39 : decode b_Mo_compile 39 = .ok (.iconst 0, 1) := by decide +kernel
theorem d_Mo_compile_40 : decode b_Mo_compile 40 = .ok (.iastore, 1) := by decide +kernel
theorem d_Mo_compile_41 : decode b_Mo_compile 41 = .ok (.aload_n 0, 1) := by decide +kernel
theorem d_Mo_compile_42 : decode b_Mo_compile 42 = .ok (.getfield 38, 3) := by decide +kernel
theorem d_Mo_compile_45 : decode b_Mo_compile 45 = .ok (.iload_n 1, 1) := by decide +kernel
theorem d_Mo_compile_46 : decode b_Mo_compile 46 = .ok (.iconst 0, 1) := by decide +kernel
theorem d_Mo_compile_47 : decode b_Mo_compile 47 = .ok (.iastore, 1) := by decide +kernel
theorem d_Mo_compile_48 : decode b_Mo_compile 48 = .ok (.aload_n 0, 1) := by decide +kernel
theorem d_Mo_compile_49 : decode b_Mo_compile 49 = .ok (.iconst 0, 1) := by decide +kernel
theorem d_Mo_compile_50 : decode b_Mo_compile 50 = .ok (.putfield 116, 3) := by decide +kernel
theorem d_Mo_compile_53 : decode b_Mo_compile 53 = .ok (.aload_n 0, 1) := by decide +kernel
theorem d_Mo_compile_54 : decode b_Mo_compile 54 = .ok (.getfield 65, 3) := by decide +kernel
theorem d_Mo_compile_57 : decode b_Mo_compile 57 = .ok (.iconst 0, 1) := by decide +kernel
theorem d_Mo_compile_58 : decode b_Mo_compile 58 = .ok (.iconst (-1), 1) := by decide +kernel
theorem d_Mo_compile_59 : decode b_Mo_compile 59 = .ok (.iastore, 1) := by decide +kernel
theorem d_Mo_compile_60 : decode b_Mo_compile 60 = .ok (.iconst 0, 1) := by decide +kernel
theorem d_Mo_compile_61 : decode b_Mo_compile 61 = .ok (.istore_n 3, 1) := by decide +kernel
theorem d_Mo_compile_62 : decode b_Mo_compile 62 = .ok (.iload_n 3, 1) := by decide +kernel
theorem d_Mo_compile_63 : decode b_Mo_compile 63 = .ok (.aload_n 0, 1) := by decide +kernel
theorem d_Mo_compile_64 : decode b_Mo_compile 64 = .ok (.getfield 17, 3) := by decide +kernel
theorem d_Mo_compile_67 : decode b_Mo_compile 67 = .ok (.iload_n 1, 1) := by decide +kernel
theorem d_Mo_compile_68 : decode b_Mo_compile 68 = .ok (.iaload, 1) := by decide +kernel
theorem d_Mo_compile_69 : decode b_Mo_compile 69 = .ok (.if_icmp .ge 164, 3) := by decide +kernel
theorem d_Mo_compile_72 : decode b_Mo_compile 72 = .ok (.aload_n 0, 1) := by decide +kernel
theorem d_Mo_compile_73 : decode b_Mo_compile 73 = .ok (.getfield 20, 3) := by decide +kernel
theorem d_Mo_compile_76 : decode b_Mo_compile 76 = .ok (.bipush 20, 2) := by decide +kernel
theorem d_Mo_compile_78 : decode b_Mo_compile 78 = .ok (.iload_n 1, 1) := by decide +kernel
theorem d_Mo_compile_79 : decode b_Mo_compile 79 = .ok (.imul, 1) := by decide +kernel
theorem d_Mo_compile_80 : decode b_Mo_compile 80 = .ok (.iload_n 3, 1) := by decide +kernel
theorem d_Mo_compile_81 : decode b_Mo_compile 81 = .ok (.iadd, 1) := by decide +kernel
theorem d_Mo_compile_82 : decode b_Mo_compile 82 = .ok (.iaload, 1) := by decide +kernel
theorem d_Mo_compile_83 : decode b_Mo_compile 83 = .ok (.istore 4, 2) := by decide +kernel
theorem d_Mo_compile_85 : decode b_Mo_compile 85 = .ok (.aload_n 0, 1) := by decide +kernel
theorem d_Mo_compile_86 : decode b_Mo_compile 86 = .ok (.getfield 23, 3) := by decide +kernel
theorem d_Mo_compile_89 : decode b_Mo_compile 89 = .ok (.bipush 20, 2) := by decide +kernel
theorem d_Mo_compile_91 : decode b_Mo_compile 91 = .ok (.iload_n 1, 1) := by decide +kernel
theorem d_Mo_compile_92 : decode b_Mo_compile 92 = .ok (.imul, 1) := by decide +kernel
theorem d_Mo_compile_93 : decode b_Mo_compile 93 = .ok (.iload_n 3, 1) := by decide +kernel
theorem d_Mo_compile_94 : decode b_Mo_compile 94 = .ok (.iadd, 1) := by decide +kernel
theorem d_Mo_compile_95 : decode b_Mo_compile 95 = .ok (.iaload, 1) := by decide +kernel
theorem d_Mo_compile_96 : decode b_Mo_compile 96 = .ok (.istore 5, 2) := by decide +kernel
theorem d_Mo_compile_98 : decode b_Mo_compile 98 = .ok (.iload 4, 2) := by decide +kernel
theorem d_Mo_compile_100 : decode b_Mo_compile 100 = .ok (.ifCond .ne 11, 3) := by decide +kernel
theorem d_Mo_compile_103 : decode b_Mo_compile 103 = .ok (.aload_n 0, 1) := by decide +kernel
theorem d_Mo_compile_104 : decode b_Mo_compile 104 = .ok (.iload_n 1, 1) := by decide +kernel
theorem d_Mo_compile_105 : decode b_Mo_compile 105 = .ok (.iconst 0, 1) := by decide +kernel
theorem d_Mo_compile_106 : decode b_Mo_compile 106 = .ok (.iload 5, 2) := by decide +kernel
theorem d_Mo_compile_108 : decode b_Mo_compile 108 = .ok (.invokevirtual 135, 3) := by decide +kernel
theorem d_Mo_compile_111 : decode b_Mo_compile 111 = .ok (.iload 4, 2) := by decide +kernel
theorem d_Mo_compile_113 : decode b_Mo_compile 113 = .ok (.iconst 1, 1) := by decide +kernel
theorem d_Mo_compile_114 : decode b_Mo_compile 114 = .ok (.if_icmp .ne 11, 3) := by decide +kernel
theorem d_Mo_compile_117 : decode b_Mo_compile 117 = .ok (.aload_n 0, 1) := by decide +kernel
theorem d_Mo_compile_118 : decode b_Mo_compile 118 = .ok (.iload_n 1, 1) := by decide +kernel
theorem d_Mo_compile_119 : decode b_Mo_compile 119 = .ok (.iconst 1, 1) := by decide +kernel
theorem d_Mo_compile_120 : decode b_Mo_compile 120 = .ok (.iload 5, 2) := by decide +kernel
theorem d_Mo_compile_122 : decode b_Mo_compile 122 = .ok (.invokevirtual 135, 3) := by decide +kernel
theorem d_Mo_compile_125 : decode b_Mo_compile 125 = .ok (.iload 4, 2) := by decide +kernel
theorem d_Mo_compile_127 : decode b_Mo_compile 127 = .ok (.iconst 2, 1) := by decide +kernel
theorem d_Mo_compile_128 : decode b_Mo_compile 128 = .ok (.if_icmp .ne 11, 3) := by decide +kernel
theorem d_Mo_compile_131 : decode b_Mo_compile 131 = .ok (.aload_n 0, 1) := by decide +kernel
theorem d_Mo_compile_132 : decode b_Mo_compile 132 = .ok (.iload_n 1, 1) := by decide +kernel
theorem d_Mo_compile_133 : decode b_Mo_compile 133 = .ok (.iconst 2, 1) := by decide +kernel
theorem d_Mo_compile_134 : decode b_Mo_compile 134 = .ok (.iload 5, 2) := by decide +kernel
theorem d_Mo_compile_136 : decode b_Mo_compile 136 = .ok (.invokevirtual 135, 3) := by decide +kernel
theorem d_Mo_compile_139 : decode b_Mo_compile 139 = .ok (.iload 4, 2) := by decide +kernel
theorem d_Mo_compile_141 : decode b_Mo_compile 141 = .ok (.bipush 7, 2) := by decide +kernel
theorem d_Mo_compile_143 : decode b_Mo_compile 143 = .ok (.if_icmp .ne 10, 3) := by decide +kernel
theorem d_Mo_compile_146 : decode b_Mo_compile 146 = .ok (.aload_n 0, 1) := by decide +kernel
theorem d_Mo_compile_147 : decode b_Mo_compile 147 = .ok (.iload_n 1, 1) := by decide +kernel
theorem d_Mo_compile_148 : decode b_Mo_compile 148 = .ok (.iconst 3, 1) := by decide +kernel
theorem d_Mo_compile_149 : decode b_Mo_compile 149 = .ok (.iconst 0, 1) := by decide +kernel
theorem d_Mo_compile_150 : decode b_Mo_compile 150 = .ok (.invokevirtual 135, 3) := by decide +kernel
theorem d_Mo_compile_153 : decode b_Mo_compile 153 = .ok (.iload 4, 2) := by decide +kernel
theorem d_Mo_compile_155 : decode b_Mo_compile 155 = .ok (.bipush 6, 2) := by decide +kernel
theorem d_Mo_compile_157 : decode b_Mo_compile 157 = .ok (.if_icmp .ne 36, 3) := by decide +kernel
theorem d_Mo_compile_160 : decode b_Mo_compile 160 = .ok (.aload_n 0, 1) := by decide +kernel
theorem d_Mo_compile_161 : decode b_Mo_compile 161 = .ok (.bipush 6, 2) := by decide +kernel
theorem d_Mo_compile_163 : decode b_Mo_compile 163 = .ok (.aload_n 0, 1) := by decide +kernel
theorem d_Mo_compile_164 : decode b_Mo_compile 164 = .ok (.iload_n 1, 1) := by decide +kernel
theorem d_Mo_compile_165 : decode b_Mo_compile 165 = .ok (.bipush (-2), 2) := by decide +kernel
theorem d_Mo_compile_167 : decode b_Mo_compile 167 = .ok (.aload_n 0, 1) := by decide +kernel
theorem d_Mo_compile_168 : decode b_Mo_compile 168 = .ok (.getfield 65, 3) := by decide +kernel
theorem d_Mo_compile_171 : decode b_Mo_compile 171 = .ok (.aload_n 0, 1) := by decide +kernel
theorem d_Mo_compile_172 : decode b_Mo_compile 172 = .ok (.getfield 116, 3) := by decide +kernel
theorem d_Mo_compile_175 : decode b_Mo_compile 175 = .ok (.iaload, 1) := by decide +kernel
theorem d_Mo_compile_176 : decode b_Mo_compile 176 = .ok (.invokevirtual 127, 3) := by decide +kernel
theorem d_Mo_compile_179 : decode b_Mo_compile 179 = .ok (.invokevirtual 131, 3) := by decide +kernel
theorem d_Mo_compile_182 : decode b_Mo_compile 182 = .ok (.aload_n 0, 1) := by decide +kernel
theorem d_Mo_compile_183 : decode b_Mo_compile 183 = .ok (.getfield 77, 3) := by decide +kernel
theorem d_Mo_compile_186 : decode b_Mo_compile 186 = .ok (.aload_n 0, 1) := by decide +kernel
theorem d_Mo_compile_187 : decode b_Mo_compile 187 = .ok (.getfield 116, 3) := by decide +kernel
theorem d_Mo_compile_190 : decode b_Mo_compile 190 = .ok (.iload 5, 2) := by decide +kernel
theorem d_Mo_compile_192 : decode b_Mo_compile 192 = .ok (.iastore, 1) := by decide +kernel
theorem d_Mo_compile_193 : decode b_Mo_compile 193 = .ok (.iload 4, 2) := by decide +kernel
theorem d_Mo_compile_195 : decode b_Mo_compile 195 = .ok (.iconst 3, 1) := by decide +kernel
theorem d_Mo_compile_196 : decode b_Mo_compile 196 = .ok (.if_icmp .ne 9, 3) := by decide +kernel
theorem d_Mo_compile_199 : decode b_Mo_compile 199 = .ok (.aload_n 0, 1) := by decide +kernel
theorem d_Mo_compile_200 : decode b_Mo_compile 200 = .ok (.iload_n 1, 1) := by decide +kernel
