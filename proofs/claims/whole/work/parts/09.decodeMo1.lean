theorem d_Mo_compile_201 : decode b_Mo_compile 201 = .ok (.iload_n 3, 1) := by decide +kernel
theorem d_Mo_compile_202 : decode b_Mo_compile 202 = .ok (.invokevirtual 152, 3) := by decide +kernel
theorem d_Mo_compile_205 : decode b_Mo_compile 205 = .ok (.iload 4, 2) := by decide +kernel
theorem d_Mo_compile_207 : decode b_Mo_compile 207 = .ok (.iconst 4, 1) := by decide +kernel
theorem d_Mo_compile_208 : decode b_Mo_compile 208 = .ok (.if_icmp .ne 8, 3) := by decide +kernel
theorem d_Mo_compile_211 : decode b_Mo_compile 211 = .ok (.aload_n 0, 1) := by decide +kernel
theorem d_Mo_compile_212 : decode b_Mo_compile 212 = .ok (.iload_n 1, 1) := by decide +kernel
theorem d_Mo_compile_213 : decode b_Mo_compile 213 = .ok (.invokevirtual 155, 3) := by decide +kernel
theorem d_Mo_compile_216 : decode b_Mo_compile 216 = .ok (.iload 4, 2) := by decide +kernel
theorem d_Mo_compile_218 : decode b_Mo_compile 218 = .ok (.iconst 5, 1) := by decide +kernel
theorem d_Mo_compile_219 : decode b_Mo_compile 219 = .ok (.if_icmp .ne 8, 3) := by decide +kernel
theorem d_Mo_compile_222 : decode b_Mo_compile 222 = .ok (.aload_n 0, 1) := by decide +kernel
theorem d_Mo_compile_223 : decode b_Mo_compile 223 = .ok (.iload_n 1, 1) := by decide +kernel
theorem d_Mo_compile_224 : decode b_Mo_compile 224 = .ok (.invokevirtual 158, 3) := by decide +kernel
theorem d_Mo_compile_227 : decode b_Mo_compile 227 = .ok (.iinc 3 1, 3) := by decide +kernel
theorem d_Mo_compile_230 : decode b_Mo_compile 230 = .ok (.goto (-168), 3) := by decide +kernel
theorem d_Mo_compile_233 : decode b_Mo_compile 233 = .ok (.aload_n 0, 1) := by decide +kernel
theorem d_Mo_compile_234 : decode b_Mo_compile 234 = .ok (.iload_n 1, 1) := by decide +kernel
theorem d_Mo_compile_235 : decode b_Mo_compile 235 = .ok (.bipush 8, 2) := by decide +kernel
theorem d_Mo_compile_237 : decode b_Mo_compile 237 = .ok (.iconst 0, 1) := by decide +kernel
theorem d_Mo_compile_238 : decode b_Mo_compile 238 = .ok (.invokevirtual 135, 3) := by decide +kernel
theorem d_Mo_compile_241 : decode b_Mo_compile 241 = .ok (.aload_n 0, 1) := by decide +kernel
theorem d_Mo_compile_242 : decode b_Mo_compile 242 = .ok (.iload_n 1, 1) := by decide +kernel
theorem d_Mo_compile_243 : decode b_Mo_compile 243 = .ok (.invokevirtual 161, 3) := by decide +kernel
theorem d_Mo_compile_246 : decode b_Mo_compile 246 = .ok (.aload_n 0, 1) := by decide +kernel
theorem d_Mo_compile_247 : decode b_Mo_compile 247 = .ok (.getfield 26, 3) := by decide +kernel
theorem d_Mo_compile_250 : decode b_Mo_compile 250 = .ok (.iload_n 1, 1) := by decide +kernel
theorem d_Mo_compile_251 : decode b_Mo_compile 251 = .ok (.iaload, 1) := by decide +kernel
theorem d_Mo_compile_252 : decode b_Mo_compile 252 = .ok (.ireturn, 1) := by decide +kernel
theorem d_Mo_wellFormed_0 : decode b_Mo_wellFormed 0 = .ok (.aload_n 0, 1) := by decide +kernel
theorem d_Mo_wellFormed_1 : decode b_Mo_wellFormed 1 = .ok (.iconst 0, 1) := by decide +kernel
theorem d_Mo_wellFormed_2 : decode b_Mo_wellFormed 2 = .ok (.putfield 116, 3) := by decide +kernel
theorem d_Mo_wellFormed_5 : decode b_Mo_wellFormed 5 = .ok (.iconst 0, 1) := by decide +kernel
theorem d_Mo_wellFormed_6 : decode b_Mo_wellFormed 6 = .ok (.istore_n 2, 1) := by decide +kernel
theorem d_Mo_wellFormed_7 : decode b_Mo_wellFormed 7 = .ok (.iload_n 2, 1) := by decide +kernel
theorem d_Mo_wellFormed_8 : decode b_Mo_wellFormed 8 = .ok (.aload_n 0, 1) := by decide +kernel
theorem d_Mo_wellFormed_9 : decode b_Mo_wellFormed 9 = .ok (.getfield 17, 3) := by decide +kernel
theorem d_Mo_wellFormed_12 : decode b_Mo_wellFormed 12 = .ok (.iload_n 1, 1) := by decide +kernel
theorem d_Mo_wellFormed_13 : decode b_Mo_wellFormed 13 = .ok (.iaload, 1) := by decide +kernel
theorem d_Mo_wellFormed_14 : decode b_Mo_wellFormed 14 = .ok (.if_icmp .ge 29, 3) := by decide +kernel
theorem d_Mo_wellFormed_17 : decode b_Mo_wellFormed 17 = .ok (.aload_n 0, 1) := by decide +kernel
theorem d_Mo_wellFormed_18 : decode b_Mo_wellFormed 18 = .ok (.aload_n 0, 1) := by decide +kernel
theorem d_Mo_wellFormed_19 : decode b_Mo_wellFormed 19 = .ok (.getfield 20, 3) := by decide +kernel
theorem d_Mo_wellFormed_22 : decode b_Mo_wellFormed 22 = .ok (.bipush 20, 2) := by decide +kernel
theorem d_Mo_wellFormed_24 : decode b_Mo_wellFormed 24 = .ok (.iload_n 1, 1) := by decide +kernel
theorem d_Mo_wellFormed_25 : decode b_Mo_wellFormed 25 = .ok (.imul, 1) := by decide +kernel
theorem d_Mo_wellFormed_26 : decode b_Mo_wellFormed 26 = .ok (.iload_n 2, 1) := by decide +kernel
theorem d_Mo_wellFormed_27 : decode b_Mo_wellFormed 27 = .ok (.iadd, 1) := by decide +kernel
theorem d_Mo_wellFormed_28 : decode b_Mo_wellFormed 28 = .ok (.iaload, 1) := by decide +kernel
theorem d_Mo_wellFormed_29 : decode b_Mo_wellFormed 29 = .ok (.invokevirtual 123, 3) := by decide +kernel
theorem d_Mo_wellFormed_32 : decode b_Mo_wellFormed 32 = .ok (.ifCond .ne 5, 3) := by decide +kernel
theorem d_Mo_wellFormed_35 : decode b_Mo_wellFormed 35 = .ok (.iconst 0, 1) := by decide +kernel
theorem d_Mo_wellFormed_36 : decode b_Mo_wellFormed 36 = .ok (.ireturn, 1) := by decide +kernel
theorem d_Mo_wellFormed_37 : decode b_Mo_wellFormed 37 = .ok (.iinc 2 1, 3) := by decide +kernel
theorem d_Mo_wellFormed_40 : decode b_Mo_wellFormed 40 = .ok (.goto (-33), 3) := by decide +kernel
theorem d_Mo_wellFormed_43 : decode b_Mo_wellFormed 43 = .ok (.aload_n 0, 1) := by decide +kernel
theorem d_Mo_wellFormed_44 : decode b_Mo_wellFormed 44 = .ok (.getfield 116, 3) := by decide +kernel
theorem d_Mo_wellFormed_47 : decode b_Mo_wellFormed 47 = .ok (.ifCond .ne 7, 3) := by decide +kernel
theorem d_Mo_wellFormed_50 : decode b_Mo_wellFormed 50 = .ok (.iconst 1, 1) := by decide +kernel
theorem d_Mo_wellFormed_51 : decode b_Mo_wellFormed 51 = .ok (.goto 4, 3) := by decide +kernel
theorem d_Mo_wellFormed_54 : decode b_Mo_wellFormed 54 = .ok (.iconst 0, 1) := by decide +kernel
theorem d_Mo_wellFormed_55 : decode b_Mo_wellFormed 55 = .ok (.ireturn, 1) := by decide +kernel
theorem d_Mo_mayStand_0 : decode b_Mo_mayStand 0 = .ok (.iload_n 1, 1) := by decide +kernel
theorem d_Mo_mayStand_1 : decode b_Mo_mayStand 1 = .ok (.iconst 3, 1) := by decide +kernel
theorem d_Mo_mayStand_2 : decode b_Mo_mayStand 2 = .ok (.if_icmp .eq 9, 3) := by decide +kernel
theorem d_Mo_mayStand_5 : decode b_Mo_mayStand 5 = .ok (.iload_n 1, 1) := by decide +kernel
theorem d_Mo_mayStand_6 : decode b_Mo_mayStand 6 = .ok (.bipush 6, 2) := by decide +kernel
theorem d_Mo_mayStand_8 : decode b_Mo_mayStand 8 = .ok (.if_icmp .ne 35, 3) := by decide +kernel
theorem d_Mo_mayStand_11 : decode b_Mo_mayStand 11 = .ok (.aload_n 0, 1) := by decide +kernel
theorem d_Mo_mayStand_12 : decode b_Mo_mayStand 12 = .ok (.getfield 116, 3) := by decide +kernel
theorem d_Mo_mayStand_15 : decode b_Mo_mayStand 15 = .ok (.iconst 5, 1) := by decide +kernel
theorem d_Mo_mayStand_16 : decode b_Mo_mayStand 16 = .ok (.if_icmp .ne 5, 3) := by decide +kernel
theorem d_Mo_mayStand_19 : decode b_Mo_mayStand 19 = .ok (.iconst 0, 1) := by decide +kernel
theorem d_Mo_mayStand_20 : decode b_Mo_mayStand 20 = .ok (.ireturn, 1) := by decide +kernel
theorem d_Mo_mayStand_21 : decode b_Mo_mayStand 21 = .ok (.aload_n 0, 1) := by decide +kernel
theorem d_Mo_mayStand_22 : decode b_Mo_mayStand 22 = .ok (.dup, 1) := by decide +kernel
theorem d_Mo_mayStand_23 : decode b_Mo_mayStand 23 = .ok (.getfield 116, 3) := by decide +kernel
theorem d_Mo_mayStand_26 : decode b_Mo_mayStand 26 = .ok (.iconst 1, 1) := by decide +kernel
theorem d_Mo_mayStand_27 : decode b_Mo_mayStand 27 = .ok (.iadd, 1) := by decide +kernel
theorem d_Mo_mayStand_28 : decode b_Mo_mayStand 28 = .ok (.putfield 116, 3) := by decide +kernel
theorem d_Mo_mayStand_31 : decode b_Mo_mayStand 31 = .ok (.aload_n 0, 1) := by decide +kernel
theorem d_Mo_mayStand_32 : decode b_Mo_mayStand 32 = .ok (.getfield 62, 3) := by decide +kernel
theorem d_Mo_mayStand_35 : decode b_Mo_mayStand 35 = .ok (.aload_n 0, 1) := by decide +kernel
theorem d_Mo_mayStand_36 : decode b_Mo_mayStand 36 = .ok (.getfield 116, 3) := by decide +kernel
theorem d_Mo_mayStand_39 : decode b_Mo_mayStand 39 = .ok (.iload_n 1, 1) := by decide +kernel
theorem d_Mo_mayStand_40 : decode b_Mo_mayStand 40 = .ok (.iastore, 1) := by decide +kernel
theorem d_Mo_mayStand_41 : decode b_Mo_mayStand 41 = .ok (.iconst 1, 1) := by decide +kernel
theorem d_Mo_mayStand_42 : decode b_Mo_mayStand 42 = .ok (.ireturn, 1) := by decide +kernel
theorem d_Mo_mayStand_43 : decode b_Mo_mayStand 43 = .ok (.iload_n 1, 1) := by decide +kernel
theorem d_Mo_mayStand_44 : decode b_Mo_mayStand 44 = .ok (.iconst 4, 1) := by decide +kernel
theorem d_Mo_mayStand_45 : decode b_Mo_mayStand 45 = .ok (.if_icmp .ne 38, 3) := by decide +kernel
theorem d_Mo_mayStand_48 : decode b_Mo_mayStand 48 = .ok (.aload_n 0, 1) := by decide +kernel
theorem d_Mo_mayStand_49 : decode b_Mo_mayStand 49 = .ok (.getfield 116, 3) := by decide +kernel
theorem d_Mo_mayStand_52 : decode b_Mo_mayStand 52 = .ok (.ifCond .eq 17, 3) := by decide +kernel
theorem d_Mo_mayStand_55 : decode b_Mo_mayStand 55 = .ok (.aload_n 0, 1) := by decide +kernel
theorem d_Mo_mayStand_56 : decode b_Mo_mayStand 56 = .ok (.getfield 62, 3) := by decide +kernel
theorem d_Mo_mayStand_59 : decode b_Mo_mayStand 59 = .ok (.aload_n 0, 1) := by decide +kernel
theorem d_Mo_mayStand_60 : decode b_Mo_mayStand 60 = .ok (.getfield 116, 3) := by decide +kernel
theorem d_Mo_mayStand_63 : decode b_Mo_mayStand 63 = .ok (.iaload, 1) := by decide +kernel
theorem d_Mo_mayStand_64 : decode b_Mo_mayStand 64 = .ok (.bipush 6, 2) := by decide +kernel
theorem d_Mo_mayStand_66 : decode b_Mo_mayStand 66 = .ok (.if_icmp .ne 5, 3) := by decide +kernel
theorem d_Mo_mayStand_69 : decode b_Mo_mayStand 69 = .ok (.iconst 0, 1) := by decide +kernel
theorem d_Mo_mayStand_70 : decode b_Mo_mayStand 70 = .ok (.ireturn, 1) := by decide +kernel
theorem d_Mo_mayStand_71 : decode b_Mo_mayStand 71 = .ok (.aload_n 0, 1) := by decide +kernel
theorem d_Mo_mayStand_72 : decode b_Mo_mayStand 72 = .ok (.getfield 62, 3) := by decide +kernel
theorem d_Mo_mayStand_75 : decode b_Mo_mayStand 75 = .ok (.aload_n 0, 1) := by decide +kernel
theorem d_Mo_mayStand_76 : decode b_Mo_mayStand 76 = .ok (.getfield 116, 3) := by decide +kernel
theorem d_Mo_mayStand_79 : decode b_Mo_mayStand 79 = .ok (.iconst 4, 1) := by decide +kernel
theorem d_Mo_mayStand_80 : decode b_Mo_mayStand 80 = .ok (.iastore, 1) := by decide +kernel
theorem d_Mo_mayStand_81 : decode b_Mo_mayStand 81 = .ok (.iconst 1, 1) := by decide +kernel
theorem d_Mo_mayStand_82 : decode b_Mo_mayStand 82 = .ok (.ireturn, 1) := by decide +kernel
theorem d_Mo_mayStand_83 : decode b_Mo_mayStand 83 = .ok (.iload_n 1, 1) := by decide +kernel
theorem d_Mo_mayStand_84 : decode b_Mo_mayStand 84 = .ok (.iconst 5, 1) := by decide +kernel
theorem d_Mo_mayStand_85 : decode b_Mo_mayStand 85 = .ok (.if_icmp .ne 37, 3) := by decide +kernel
theorem d_Mo_mayStand_88 : decode b_Mo_mayStand 88 = .ok (.aload_n 0, 1) := by decide +kernel
theorem d_Mo_mayStand_89 : decode b_Mo_mayStand 89 = .ok (.getfield 116, 3) := by decide +kernel
theorem d_Mo_mayStand_92 : decode b_Mo_mayStand 92 = .ok (.ifCond .eq 16, 3) := by decide +kernel
theorem d_Mo_mayStand_95 : decode b_Mo_mayStand 95 = .ok (.aload_n 0, 1) := by decide +kernel
theorem d_Mo_mayStand_96 : decode b_Mo_mayStand 96 = .ok (.getfield 62, 3) := by decide +kernel
theorem d_Mo_mayStand_99 : decode b_Mo_mayStand 99 = .ok (.aload_n 0, 1) := by decide +kernel
theorem d_Mo_mayStand_100 : decode b_Mo_mayStand 100 = .ok (.getfield 116, 3) := by decide +kernel
theorem d_Mo_mayStand_103 : decode b_Mo_mayStand 103 = .ok (.iaload, 1) := by decide +kernel
theorem d_Mo_mayStand_104 : decode b_Mo_mayStand 104 = .ok (.iconst 3, 1) := by decide +kernel
theorem d_Mo_mayStand_105 : decode b_Mo_mayStand 105 = .ok (.if_icmp .ne 5, 3) := by decide +kernel
theorem d_Mo_mayStand_108 : decode b_Mo_mayStand 108 = .ok (.iconst 0, 1) := by decide +kernel
theorem d_Mo_mayStand_109 : decode b_Mo_mayStand 109 = .ok (.ireturn, 1) := by decide +kernel
theorem d_Mo_mayStand_110 : decode b_Mo_mayStand 110 = .ok (.aload_n 0, 1) := by decide +kernel
theorem d_Mo_mayStand_111 : decode b_Mo_mayStand 111 = .ok (.dup, 1) := by decide +kernel
theorem d_Mo_mayStand_112 : decode b_Mo_mayStand 112 = .ok (.getfield 116, 3) := by decide +kernel
theorem d_Mo_mayStand_115 : decode b_Mo_mayStand 115 = .ok (.iconst 1, 1) := by decide +kernel
theorem d_Mo_mayStand_116 : decode b_Mo_mayStand 116 = .ok (.isub, 1) := by decide +kernel
theorem d_Mo_mayStand_117 : decode b_Mo_mayStand 117 = .ok (.putfield 116, 3) := by decide +kernel
theorem d_Mo_mayStand_120 : decode b_Mo_mayStand 120 = .ok (.iconst 1, 1) := by decide +kernel
theorem d_Mo_mayStand_121 : decode b_Mo_mayStand 121 = .ok (.ireturn, 1) := by decide +kernel
theorem d_Mo_mayStand_122 : decode b_Mo_mayStand 122 = .ok (.iload_n 1, 1) := by decide +kernel
theorem d_Mo_mayStand_123 : decode b_Mo_mayStand 123 = .ok (.bipush 7, 2) := by decide +kernel
theorem d_Mo_mayStand_125 : decode b_Mo_mayStand 125 = .ok (.if_icmp .ne 10, 3) := by decide +kernel
theorem d_Mo_mayStand_128 : decode b_Mo_mayStand 128 = .ok (.aload_n 0, 1) := by decide +kernel
theorem d_Mo_mayStand_129 : decode b_Mo_mayStand 129 = .ok (.invokevirtual 119, 3) := by decide +kernel
theorem d_Mo_mayStand_132 : decode b_Mo_mayStand 132 = .ok (.ifCond .eq 7, 3) := by decide +kernel
theorem d_Mo_mayStand_135 : decode b_Mo_mayStand 135 = .ok (.iconst 1, 1) := by decide +kernel
theorem d_Mo_mayStand_136 : decode b_Mo_mayStand 136 = .ok (.goto 4, 3) := by decide +kernel
theorem d_Mo_mayStand_139 : decode b_Mo_mayStand 139 = .ok (.iconst 0, 1) := by decide +kernel
theorem d_Mo_mayStand_140 : decode b_Mo_mayStand 140 = .ok (.ireturn, 1) := by decide +kernel
theorem d_Mo_inCatch_0 : decode b_Mo_inCatch 0 = .ok (.iconst 0, 1) := by decide +kernel
theorem d_Mo_inCatch_1 : decode b_Mo_inCatch 1 = .ok (.istore_n 1, 1) := by decide +kernel
theorem d_Mo_inCatch_2 : decode b_Mo_inCatch 2 = .ok (.iconst 1, 1) := by decide +kernel
theorem d_Mo_inCatch_3 : decode b_Mo_inCatch 3 = .ok (.istore_n 2, 1) := by decide +kernel
theorem d_Mo_inCatch_4 : decode b_Mo_inCatch 4 = .ok (.iload_n 2, 1) := by decide +kernel
theorem d_Mo_inCatch_5 : decode b_Mo_inCatch 5 = .ok (.aload_n 0, 1) := by decide +kernel
theorem d_Mo_inCatch_6 : decode b_Mo_inCatch 6 = .ok (.getfield 116, 3) := by decide +kernel
theorem d_Mo_inCatch_9 : decode b_Mo_inCatch 9 = .ok (.if_icmp .gt 29, 3) := by decide +kernel
theorem d_Mo_inCatch_12 : decode b_Mo_inCatch 12 = .ok (.iload_n 1, 1) := by decide +kernel
theorem d_Mo_inCatch_13 : decode b_Mo_inCatch 13 = .ok (.ifCond .ne 13, 3) := by decide +kernel
theorem d_Mo_inCatch_16 : decode b_Mo_inCatch 16 = .ok (.aload_n 0, 1) := by decide +kernel
theorem d_Mo_inCatch_17 : decode b_Mo_inCatch 17 = .ok (.getfield 62, 3) := by decide +kernel
theorem d_Mo_inCatch_20 : decode b_Mo_inCatch 20 = .ok (.iload_n 2, 1) := by decide +kernel
theorem d_Mo_inCatch_21 : decode b_Mo_inCatch 21 = .ok (.iaload, 1) := by decide +kernel
theorem d_Mo_inCatch_22 : decode b_Mo_inCatch 22 = .ok (.iconst 4, 1) := by decide +kernel
theorem d_Mo_inCatch_23 : decode b_Mo_inCatch 23 = .ok (.if_icmp .ne 7, 3) := by decide +kernel
theorem d_Mo_inCatch_26 : decode b_Mo_inCatch 26 = .ok (.iconst 1, 1) := by decide +kernel
theorem d_Mo_inCatch_27 : decode b_Mo_inCatch 27 = .ok (.goto 4, 3) := by decide +kernel
theorem d_Mo_inCatch_30 : decode b_Mo_inCatch 30 = .ok (.iconst 0, 1) := by decide +kernel
theorem d_Mo_inCatch_31 : decode b_Mo_inCatch 31 = .ok (.istore_n 1, 1) := by decide +kernel
theorem d_Mo_inCatch_32 : decode b_Mo_inCatch 32 = .ok (.iinc 2 1, 3) := by decide +kernel
theorem d_Mo_inCatch_35 : decode b_Mo_inCatch 35 = .ok (.goto (-31), 3) := by decide +kernel
theorem d_Mo_inCatch_38 : decode b_Mo_inCatch 38 = .ok (.iload_n 1, 1) := by decide +kernel
theorem d_Mo_inCatch_39 : decode b_Mo_inCatch 39 = .ok (.ireturn, 1) := by decide +kernel
theorem d_Mo_emit_0 : decode b_Mo_emit 0 = .ok (.sipush 128, 3) := by decide +kernel
theorem d_Mo_emit_3 : decode b_Mo_emit 3 = .ok (.iload_n 1, 1) := by decide +kernel
theorem d_Mo_emit_4 : decode b_Mo_emit 4 = .ok (.imul, 1) := by decide +kernel
theorem d_Mo_emit_5 : decode b_Mo_emit 5 = .ok (.aload_n 0, 1) := by decide +kernel
theorem d_Mo_emit_6 : decode b_Mo_emit 6 = .ok (.getfield 26, 3) := by decide +kernel
theorem d_Mo_emit_9 : decode b_Mo_emit 9 = .ok (.iload_n 1, 1) := by decide +kernel
theorem d_Mo_emit_10 : decode b_Mo_emit 10 = .ok (.iaload, 1) := by decide +kernel
theorem d_Mo_emit_11 : decode b_Mo_emit 11 = .ok (.iadd, 1) := by decide +kernel
theorem d_Mo_emit_12 : decode b_Mo_emit 12 = .ok (.istore 4, 2) := by decide +kernel
theorem d_Mo_emit_14 : decode b_Mo_emit 14 = .ok (.aload_n 0, 1) := by decide +kernel
theorem d_Mo_emit_15 : decode b_Mo_emit 15 = .ok (.getfield 29, 3) := by decide +kernel
theorem d_Mo_emit_18 : decode b_Mo_emit 18 = .ok (.iload 4, 2) := by decide +kernel
theorem d_Mo_emit_20 : decode b_Mo_emit 20 = .ok (.iload_n 2, 1) := by decide +kernel
theorem d_Mo_emit_21 : decode b_Mo_emit 21 = .ok (.iastore, 1) := by decide +kernel
theorem d_Mo_emit_22 : decode b_Mo_emit 22 = .ok (.aload_n 0, 1) := by decide +kernel
theorem d_Mo_emit_23 : decode b_Mo_emit 23 = .ok (.getfield 32, 3) := by decide +kernel
theorem d_Mo_emit_26 : decode b_Mo_emit 26 = .ok (.iload 4, 2) := by decide +kernel
theorem d_Mo_emit_28 : decode b_Mo_emit 28 = .ok (.iload_n 3, 1) := by decide +kernel
theorem d_Mo_emit_29 : decode b_Mo_emit 29 = .ok (.iastore, 1) := by decide +kernel
theorem d_Mo_emit_30 : decode b_Mo_emit 30 = .ok (.aload_n 0, 1) := by decide +kernel
theorem d_Mo_emit_31 : decode b_Mo_emit 31 = .ok (.getfield 35, 3) := by decide +kernel
theorem d_Mo_emit_34 : decode b_Mo_emit 34 = .ok (.iload 4, 2) := by decide +kernel
theorem d_Mo_emit_36 : decode b_Mo_emit 36 = .ok (.aload_n 0, 1) := by decide +kernel
theorem d_Mo_emit_37 : decode b_Mo_emit 37 = .ok (.getfield 65, 3) := by decide +kernel
theorem d_Mo_emit_40 : decode b_Mo_emit 40 = .ok (.aload_n 0, 1) := by decide +kernel
theorem d_Mo_emit_41 : decode b_Mo_emit 41 = .ok (.getfield 116, 3) := by decide +kernel
theorem d_Mo_emit_44 : decode b_Mo_emit 44 = .ok (.iaload, 1) := by decide +kernel
theorem d_Mo_emit_45 : decode b_Mo_emit 45 = .ok (.iastore, 1) := by decide +kernel
theorem d_Mo_emit_46 : decode b_Mo_emit 46 = .ok (.aload_n 0, 1) := by decide +kernel
theorem d_Mo_emit_47 : decode b_Mo_emit 47 = .ok (.getfield 26, 3) := by decide +kernel
theorem d_Mo_emit_50 : decode b_Mo_emit 50 = .ok (.iload_n 1, 1) := by decide +kernel
theorem d_Mo_emit_51 : decode b_Mo_emit 51 = .ok (.dup2, 1) := by decide +kernel
theorem d_Mo_emit_52 : decode b_Mo_emit 52 = .ok (.iaload, 1) := by decide +kernel
theorem d_Mo_emit_53 : decode b_Mo_emit 53 = .ok (.iconst 1, 1) := by decide +kernel
theorem d_Mo_emit_54 : decode b_Mo_emit 54 = .ok (.iadd, 1) := by decide +kernel
theorem d_Mo_emit_55 : decode b_Mo_emit 55 = .ok (.iastore, 1) := by decide +kernel
theorem d_Mo_emit_56 : decode b_Mo_emit 56 = .ok (.return_, 1) := by decide +kernel
theorem d_Mo_newAction_0 : decode b_Mo_newAction 0 = .ok (.bipush 48, 2) := by decide +kernel
theorem d_Mo_newAction_2 : decode b_Mo_newAction 2 = .ok (.iload_n 1, 1) := by decide +kernel
theorem d_Mo_newAction_3 : decode b_Mo_newAction 3 = .ok (.imul, 1) := by decide +kernel
theorem d_Mo_newAction_4 : decode b_Mo_newAction 4 = .ok (.aload_n 0, 1) := by decide +kernel
theorem d_Mo_newAction_5 : decode b_Mo_newAction 5 = .ok (.getfield 38, 3) := by decide +kernel
theorem d_Mo_newAction_8 : decode b_Mo_newAction 8 = .ok (.iload_n 1, 1) := by decide +kernel
theorem d_Mo_newAction_9 : decode b_Mo_newAction 9 = .ok (.iaload, 1) := by decide +kernel
theorem d_Mo_newAction_10 : decode b_Mo_newAction 10 = .ok (.iadd, 1) := by decide +kernel
theorem d_Mo_newAction_11 : decode b_Mo_newAction 11 = .ok (.istore 4, 2) := by decide +kernel
theorem d_Mo_newAction_13 : decode b_Mo_newAction 13 = .ok (.aload_n 0, 1) := by decide +kernel
theorem d_Mo_newAction_14 : decode b_Mo_newAction 14 = .ok (.getfield 41, 3) := by decide +kernel
theorem d_Mo_newAction_17 : decode b_Mo_newAction 17 = .ok (.iload 4, 2) := by decide +kernel
theorem d_Mo_newAction_19 : decode b_Mo_newAction 19 = .ok (.iload_n 2, 1) := by decide +kernel
theorem d_Mo_newAction_20 : decode b_Mo_newAction 20 = .ok (.iastore, 1) := by decide +kernel
theorem d_Mo_newAction_21 : decode b_Mo_newAction 21 = .ok (.aload_n 0, 1) := by decide +kernel
theorem d_Mo_newAction_22 : decode b_Mo_newAction 22 = .ok (.getfield 44, 3) := by decide +kernel
theorem d_Mo_newAction_25 : decode b_Mo_newAction 25 = .ok (.iload 4, 2) := by decide +kernel
theorem d_Mo_newAction_27 : decode b_Mo_newAction 27 = .ok (.iconst 0, 1) := by decide +kernel
theorem d_Mo_newAction_28 : decode b_Mo_newAction 28 = .ok (.iastore, 1) := by decide +kernel
theorem d_Mo_newAction_29 : decode b_Mo_newAction 29 = .ok (.aload_n 0, 1) := by decide +kernel
theorem d_Mo_newAction_30 : decode b_Mo_newAction 30 = .ok (.getfield 47, 3) := by decide +kernel
theorem d_Mo_newAction_33 : decode b_Mo_newAction 33 = .ok (.iload 4, 2) := by decide +kernel
theorem d_Mo_newAction_35 : decode b_Mo_newAction 35 = .ok (.iload_n 3, 1) := by decide +kernel
theorem d_Mo_newAction_36 : decode b_Mo_newAction 36 = .ok (.iastore, 1) := by decide +kernel
theorem d_Mo_newAction_37 : decode b_Mo_newAction 37 = .ok (.aload_n 0, 1) := by decide +kernel
theorem d_Mo_newAction_38 : decode b_Mo_newAction 38 = .ok (.getfield 38, 3) := by decide +kernel
theorem d_Mo_newAction_41 : decode b_Mo_newAction 41 = .ok (.iload_n 1, 1) := by decide +kernel
theorem d_Mo_newAction_42 : decode b_Mo_newAction 42 = .ok (.dup2, 1) := by decide +kernel
theorem d_Mo_newAction_43 : decode b_Mo_newAction 43 = .ok (.iaload, 1) := by decide +kernel
theorem d_Mo_newAction_44 : decode b_Mo_newAction 44 = .ok (.iconst 1, 1) := by decide +kernel
theorem d_Mo_newAction_45 : decode b_Mo_newAction 45 = .ok (.iadd, 1) := by decide +kernel
theorem d_Mo_newAction_46 : decode b_Mo_newAction 46 = .ok (.iastore, 1) := by decide +kernel
theorem d_Mo_newAction_47 : decode b_Mo_newAction 47 = .ok (.aload_n 0, 1) := by decide +kernel
theorem d_Mo_newAction_48 : decode b_Mo_newAction 48 = .ok (.getfield 38, 3) := by decide +kernel
theorem d_Mo_newAction_51 : decode b_Mo_newAction 51 = .ok (.iload_n 1, 1) := by decide +kernel
theorem d_Mo_newAction_52 : decode b_Mo_newAction 52 = .ok (.iaload, 1) := by decide +kernel
theorem d_Mo_newAction_53 : decode b_Mo_newAction 53 = .ok (.iconst 1, 1) := by decide +kernel
theorem d_Mo_newAction_54 : decode b_Mo_newAction 54 = .ok (.isub, 1) := by decide +kernel
theorem d_Mo_newAction_55 : decode b_Mo_newAction 55 = .ok (.ireturn, 1) := by decide +kernel
theorem d_Mo_opens_0 : decode b_Mo_opens 0 = .ok (.aload_n 0, 1) := by decide +kernel
theorem d_Mo_opens_1 : decode b_Mo_opens 1 = .ok (.getfield 68, 3) := by decide +kernel
theorem d_Mo_opens_4 : decode b_Mo_opens 4 = .ok (.aload_n 0, 1) := by decide +kernel
theorem d_Mo_opens_5 : decode b_Mo_opens 5 = .ok (.getfield 116, 3) := by decide +kernel
theorem d_Mo_opens_8 : decode b_Mo_opens 8 = .ok (.iconst 1, 1) := by decide +kernel
theorem d_Mo_opens_9 : decode b_Mo_opens 9 = .ok (.iadd, 1) := by decide +kernel
theorem d_Mo_opens_10 : decode b_Mo_opens 10 = .ok (.aload_n 0, 1) := by decide +kernel
theorem d_Mo_opens_11 : decode b_Mo_opens 11 = .ok (.getfield 65, 3) := by decide +kernel
theorem d_Mo_opens_14 : decode b_Mo_opens 14 = .ok (.aload_n 0, 1) := by decide +kernel
theorem d_Mo_opens_15 : decode b_Mo_opens 15 = .ok (.getfield 116, 3) := by decide +kernel
theorem d_Mo_opens_18 : decode b_Mo_opens 18 = .ok (.iaload, 1) := by decide +kernel
theorem d_Mo_opens_19 : decode b_Mo_opens 19 = .ok (.iastore, 1) := by decide +kernel
theorem d_Mo_opens_20 : decode b_Mo_opens 20 = .ok (.aload_n 0, 1) := by decide +kernel
theorem d_Mo_opens_21 : decode b_Mo_opens 21 = .ok (.dup, 1) := by decide +kernel
theorem d_Mo_opens_22 : decode b_Mo_opens 22 = .ok (.getfield 116, 3) := by decide +kernel
theorem d_Mo_opens_25 : decode b_Mo_opens 25 = .ok (.iconst 1, 1) := by decide +kernel
theorem d_Mo_opens_26 : decode b_Mo_opens 26 = .ok (.iadd, 1) := by decide +kernel
theorem d_Mo_opens_27 : decode b_Mo_opens 27 = .ok (.putfield 116, 3) := by decide +kernel
theorem d_Mo_opens_30 : decode b_Mo_opens 30 = .ok (.aload_n 0, 1) := by decide +kernel
theorem d_Mo_opens_31 : decode b_Mo_opens 31 = .ok (.getfield 62, 3) := by decide +kernel
theorem d_Mo_opens_34 : decode b_Mo_opens 34 = .ok (.aload_n 0, 1) := by decide +kernel
theorem d_Mo_opens_35 : decode b_Mo_opens 35 = .ok (.getfield 116, 3) := by decide +kernel
theorem d_Mo_opens_38 : decode b_Mo_opens 38 = .ok (.iload_n 1, 1) := by decide +kernel
theorem d_Mo_opens_39 : decode b_Mo_opens 39 = .ok (.iastore, 1) := by decide +kernel
theorem d_Mo_opens_40 : decode b_Mo_opens 40 = .ok (.aload_n 0, 1) := by decide +kernel
theorem d_Mo_opens_41 : decode b_Mo_opens 41 = .ok (.getfield 65, 3) := by decide +kernel
theorem d_Mo_opens_44 : decode b_Mo_opens 44 = .ok (.aload_n 0, 1) := by decide +kernel
theorem d_Mo_opens_45 : decode b_Mo_opens 45 = .ok (.getfield 116, 3) := by decide +kernel
theorem d_Mo_opens_48 : decode b_Mo_opens 48 = .ok (.iload_n 2, 1) := by decide +kernel
theorem d_Mo_opens_49 : decode b_Mo_opens 49 = .ok (.iastore, 1) := by decide +kernel
theorem d_Mo_opens_50 : decode b_Mo_opens 50 = .ok (.return_, 1) := by decide +kernel
theorem d_Mo_tries_0 : decode b_Mo_tries 0 = .ok (.aload_n 0, 1) := by decide +kernel
theorem d_Mo_tries_1 : decode b_Mo_tries 1 = .ok (.getfield 38, 3) := by decide +kernel
theorem d_Mo_tries_4 : decode b_Mo_tries 4 = .ok (.iload_n 1, 1) := by decide +kernel
theorem d_Mo_tries_5 : decode b_Mo_tries 5 = .ok (.iaload, 1) := by decide +kernel
theorem d_Mo_tries_6 : decode b_Mo_tries 6 = .ok (.istore_n 3, 1) := by decide +kernel
theorem d_Mo_tries_7 : decode b_Mo_tries 7 = .ok (.iconst 1, 1) := by decide +kernel
theorem d_Mo_tries_8 : decode b_Mo_tries 8 = .ok (.istore 4, 2) := by decide +kernel
theorem d_Mo_tries_10 : decode b_Mo_tries 10 = .ok (.iload_n 2, 1) := by decide +kernel
theorem d_Mo_tries_11 : decode b_Mo_tries 11 = .ok (.iconst 1, 1) := by decide +kernel
theorem d_Mo_tries_12 : decode b_Mo_tries 12 = .ok (.iadd, 1) := by decide +kernel
theorem d_Mo_tries_13 : decode b_Mo_tries 13 = .ok (.istore 5, 2) := by decide +kernel
theorem d_Mo_tries_15 : decode b_Mo_tries 15 = .ok (.iload 4, 2) := by decide +kernel
theorem d_Mo_tries_17 : decode b_Mo_tries 17 = .ok (.ifCond .le 94, 3) := by decide +kernel
theorem d_Mo_tries_20 : decode b_Mo_tries 20 = .ok (.aload_n 0, 1) := by decide +kernel
theorem d_Mo_tries_21 : decode b_Mo_tries 21 = .ok (.getfield 20, 3) := by decide +kernel
theorem d_Mo_tries_24 : decode b_Mo_tries 24 = .ok (.bipush 20, 2) := by decide +kernel
theorem d_Mo_tries_26 : decode b_Mo_tries 26 = .ok (.iload_n 1, 1) := by decide +kernel
theorem d_Mo_tries_27 : decode b_Mo_tries 27 = .ok (.imul, 1) := by decide +kernel
theorem d_Mo_tries_28 : decode b_Mo_tries 28 = .ok (.iload 5, 2) := by decide +kernel
theorem d_Mo_tries_30 : decode b_Mo_tries 30 = .ok (.iadd, 1) := by decide +kernel
theorem d_Mo_tries_31 : decode b_Mo_tries 31 = .ok (.iaload, 1) := by decide +kernel
theorem d_Mo_tries_32 : decode b_Mo_tries 32 = .ok (.istore 6, 2) := by decide +kernel
theorem d_Mo_tries_34 : decode b_Mo_tries 34 = .ok (.iload 4, 2) := by decide +kernel
theorem d_Mo_tries_36 : decode b_Mo_tries 36 = .ok (.iload 6, 2) := by decide +kernel
theorem d_Mo_tries_38 : decode b_Mo_tries 38 = .ok (.iconst 3, 1) := by decide +kernel
theorem d_Mo_tries_39 : decode b_Mo_tries 39 = .ok (.if_icmp .eq 10, 3) := by decide +kernel
theorem d_Mo_tries_42 : decode b_Mo_tries 42 = .ok (.iload 6, 2) := by decide +kernel
theorem d_Mo_tries_44 : decode b_Mo_tries 44 = .ok (.bipush 6, 2) := by decide +kernel
theorem d_Mo_tries_46 : decode b_Mo_tries 46 = .ok (.if_icmp .ne 7, 3) := by decide +kernel
theorem d_Mo_tries_49 : decode b_Mo_tries 49 = .ok (.iconst 1, 1) := by decide +kernel
theorem d_Mo_tries_50 : decode b_Mo_tries 50 = .ok (.goto 14, 3) := by decide +kernel
theorem d_Mo_tries_53 : decode b_Mo_tries 53 = .ok (.iload 6, 2) := by decide +kernel
theorem d_Mo_tries_55 : decode b_Mo_tries 55 = .ok (.iconst 5, 1) := by decide +kernel
theorem d_Mo_tries_56 : decode b_Mo_tries 56 = .ok (.if_icmp .ne 7, 3) := by decide +kernel
theorem d_Mo_tries_59 : decode b_Mo_tries 59 = .ok (.iconst (-1), 1) := by decide +kernel
theorem d_Mo_tries_60 : decode b_Mo_tries 60 = .ok (.goto 4, 3) := by decide +kernel
theorem d_Mo_tries_63 : decode b_Mo_tries 63 = .ok (.iconst 0, 1) := by decide +kernel
theorem d_Mo_tries_64 : decode b_Mo_tries 64 = .ok (.iadd, 1) := by decide +kernel
theorem d_Mo_tries_65 : decode b_Mo_tries 65 = .ok (.istore 4, 2) := by decide +kernel
theorem d_Mo_tries_67 : decode b_Mo_tries 67 = .ok (.iload 6, 2) := by decide +kernel
theorem d_Mo_tries_69 : decode b_Mo_tries 69 = .ok (.iconst 4, 1) := by decide +kernel
theorem d_Mo_tries_70 : decode b_Mo_tries 70 = .ok (.if_icmp .ne 35, 3) := by decide +kernel
theorem d_Mo_tries_73 : decode b_Mo_tries 73 = .ok (.iload 4, 2) := by decide +kernel
theorem d_Mo_tries_75 : decode b_Mo_tries 75 = .ok (.iconst 1, 1) := by decide +kernel
theorem d_Mo_tries_76 : decode b_Mo_tries 76 = .ok (.if_icmp .ne 29, 3) := by decide +kernel
theorem d_Mo_tries_79 : decode b_Mo_tries 79 = .ok (.aload_n 0, 1) := by decide +kernel
theorem d_Mo_tries_80 : decode b_Mo_tries 80 = .ok (.iload_n 1, 1) := by decide +kernel
theorem d_Mo_tries_81 : decode b_Mo_tries 81 = .ok (.aload_n 0, 1) := by decide +kernel
theorem d_Mo_tries_82 : decode b_Mo_tries 82 = .ok (.getfield 23, 3) := by decide +kernel
theorem d_Mo_tries_85 : decode b_Mo_tries 85 = .ok (.bipush 20, 2) := by decide +kernel
theorem d_Mo_tries_87 : decode b_Mo_tries 87 = .ok (.iload_n 1, 1) := by decide +kernel
theorem d_Mo_tries_88 : decode b_Mo_tries 88 = .ok (.imul, 1) := by decide +kernel
theorem d_Mo_tries_89 : decode b_Mo_tries 89 = .ok (.iload 5, 2) := by decide +kernel
theorem d_Mo_tries_91 : decode b_Mo_tries 91 = .ok (.iadd, 1) := by decide +kernel
theorem d_Mo_tries_92 : decode b_Mo_tries 92 = .ok (.iaload, 1) := by decide +kernel
theorem d_Mo_tries_93 : decode b_Mo_tries 93 = .ok (.aload_n 0, 1) := by decide +kernel
theorem d_Mo_tries_94 : decode b_Mo_tries 94 = .ok (.getfield 38, 3) := by decide +kernel
theorem d_Mo_tries_97 : decode b_Mo_tries 97 = .ok (.iload_n 1, 1) := by decide +kernel
theorem d_Mo_tries_98 : decode b_Mo_tries 98 = .ok (.iaload, 1) := by decide +kernel
theorem d_Mo_tries_99 : decode b_Mo_tries 99 = .ok (.iconst 1, 1) := by decide +kernel
theorem d_Mo_tries_100 : decode b_Mo_tries 100 = .ok (.iadd, 1) := by decide +kernel
theorem d_Mo_tries_101 : decode b_Mo_tries 101 = .ok (.invokevirtual 127, 3) := by decide +kernel
theorem d_Mo_tries_104 : decode b_Mo_tries 104 = .ok (.pop, 1) := by decide +kernel
theorem d_Mo_tries_105 : decode b_Mo_tries 105 = .ok (.iinc 5 1, 3) := by decide +kernel
theorem d_Mo_tries_108 : decode b_Mo_tries 108 = .ok (.goto (-93), 3) := by decide +kernel
theorem d_Mo_tries_111 : decode b_Mo_tries 111 = .ok (.aload_n 0, 1) := by decide +kernel
theorem d_Mo_tries_112 : decode b_Mo_tries 112 = .ok (.getfield 47, 3) := by decide +kernel
theorem d_Mo_tries_115 : decode b_Mo_tries 115 = .ok (.bipush 48, 2) := by decide +kernel
theorem d_Mo_tries_117 : decode b_Mo_tries 117 = .ok (.iload_n 1, 1) := by decide +kernel
theorem d_Mo_tries_118 : decode b_Mo_tries 118 = .ok (.imul, 1) := by decide +kernel
theorem d_Mo_tries_119 : decode b_Mo_tries 119 = .ok (.aload_n 0, 1) := by decide +kernel
theorem d_Mo_tries_120 : decode b_Mo_tries 120 = .ok (.getfield 38, 3) := by decide +kernel
theorem d_Mo_tries_123 : decode b_Mo_tries 123 = .ok (.iload_n 1, 1) := by decide +kernel
theorem d_Mo_tries_124 : decode b_Mo_tries 124 = .ok (.iaload, 1) := by decide +kernel
theorem d_Mo_tries_125 : decode b_Mo_tries 125 = .ok (.iadd, 1) := by decide +kernel
theorem d_Mo_tries_126 : decode b_Mo_tries 126 = .ok (.iconst 1, 1) := by decide +kernel
theorem d_Mo_tries_127 : decode b_Mo_tries 127 = .ok (.isub, 1) := by decide +kernel
theorem d_Mo_tries_128 : decode b_Mo_tries 128 = .ok (.aload_n 0, 1) := by decide +kernel
theorem d_Mo_tries_129 : decode b_Mo_tries 129 = .ok (.getfield 65, 3) := by decide +kernel
theorem d_Mo_tries_132 : decode b_Mo_tries 132 = .ok (.aload_n 0, 1) := by decide +kernel
theorem d_Mo_tries_133 : decode b_Mo_tries 133 = .ok (.getfield 116, 3) := by decide +kernel
theorem d_Mo_tries_136 : decode b_Mo_tries 136 = .ok (.iaload, 1) := by decide +kernel
theorem d_Mo_tries_137 : decode b_Mo_tries 137 = .ok (.iastore, 1) := by decide +kernel
theorem d_Mo_tries_138 : decode b_Mo_tries 138 = .ok (.aload_n 0, 1) := by decide +kernel
theorem d_Mo_tries_139 : decode b_Mo_tries 139 = .ok (.iconst 3, 1) := by decide +kernel
theorem d_Mo_tries_140 : decode b_Mo_tries 140 = .ok (.iload_n 3, 1) := by decide +kernel
theorem d_Mo_tries_141 : decode b_Mo_tries 141 = .ok (.invokevirtual 131, 3) := by decide +kernel
theorem d_Mo_tries_144 : decode b_Mo_tries 144 = .ok (.aload_n 0, 1) := by decide +kernel
theorem d_Mo_tries_145 : decode b_Mo_tries 145 = .ok (.getfield 71, 3) := by decide +kernel
theorem d_Mo_tries_148 : decode b_Mo_tries 148 = .ok (.aload_n 0, 1) := by decide +kernel
theorem d_Mo_tries_149 : decode b_Mo_tries 149 = .ok (.getfield 116, 3) := by decide +kernel
theorem d_Mo_tries_152 : decode b_Mo_tries 152 = .ok (.iload_n 3, 1) := by decide +kernel
theorem d_Mo_tries_153 : decode b_Mo_tries 153 = .ok (.iastore, 1) := by decide +kernel
theorem d_Mo_tries_154 : decode b_Mo_tries 154 = .ok (.return_, 1) := by decide +kernel
theorem d_Mo_catches_0 : decode b_Mo_catches 0 = .ok (.aload_n 0, 1) := by decide +kernel
theorem d_Mo_catches_1 : decode b_Mo_catches 1 = .ok (.getfield 62, 3) := by decide +kernel
theorem d_Mo_catches_4 : decode b_Mo_catches 4 = .ok (.aload_n 0, 1) := by decide +kernel
theorem d_Mo_catches_5 : decode b_Mo_catches 5 = .ok (.getfield 116, 3) := by decide +kernel
theorem d_Mo_catches_8 : decode b_Mo_catches 8 = .ok (.iaload, 1) := by decide +kernel
theorem d_Mo_catches_9 : decode b_Mo_catches 9 = .ok (.iconst 3, 1) := by decide +kernel
theorem d_Mo_catches_10 : decode b_Mo_catches 10 = .ok (.if_icmp .ne 17, 3) := by decide +kernel
theorem d_Mo_catches_13 : decode b_Mo_catches 13 = .ok (.aload_n 0, 1) := by decide +kernel
theorem d_Mo_catches_14 : decode b_Mo_catches 14 = .ok (.iload_n 1, 1) := by decide +kernel
theorem d_Mo_catches_15 : decode b_Mo_catches 15 = .ok (.iconst 4, 1) := by decide +kernel
theorem d_Mo_catches_16 : decode b_Mo_catches 16 = .ok (.aload_n 0, 1) := by decide +kernel
theorem d_Mo_catches_17 : decode b_Mo_catches 17 = .ok (.getfield 116, 3) := by decide +kernel
theorem d_Mo_catches_20 : decode b_Mo_catches 20 = .ok (.ineg, 1) := by decide +kernel
theorem d_Mo_catches_21 : decode b_Mo_catches 21 = .ok (.invokevirtual 135, 3) := by decide +kernel
theorem d_Mo_catches_24 : decode b_Mo_catches 24 = .ok (.goto 8, 3) := by decide +kernel
theorem d_Mo_catches_27 : decode b_Mo_catches 27 = .ok (.aload_n 0, 1) := by decide +kernel
theorem d_Mo_catches_28 : decode b_Mo_catches 28 = .ok (.iload_n 1, 1) := by decide +kernel
theorem d_Mo_catches_29 : decode b_Mo_catches 29 = .ok (.invokevirtual 142, 3) := by decide +kernel
theorem d_Mo_catches_32 : decode b_Mo_catches 32 = .ok (.aload_n 0, 1) := by decide +kernel
theorem d_Mo_catches_33 : decode b_Mo_catches 33 = .ok (.getfield 62, 3) := by decide +kernel
theorem d_Mo_catches_36 : decode b_Mo_catches 36 = .ok (.aload_n 0, 1) := by decide +kernel
theorem d_Mo_catches_37 : decode b_Mo_catches 37 = .ok (.getfield 116, 3) := by decide +kernel
theorem d_Mo_catches_40 : decode b_Mo_catches 40 = .ok (.iconst 4, 1) := by decide +kernel
theorem d_Mo_catches_41 : decode b_Mo_catches 41 = .ok (.iastore, 1) := by decide +kernel
theorem d_Mo_catches_42 : decode b_Mo_catches 42 = .ok (.aload_n 0, 1) := by decide +kernel
theorem d_Mo_catches_43 : decode b_Mo_catches 43 = .ok (.iload_n 1, 1) := by decide +kernel
theorem d_Mo_catches_44 : decode b_Mo_catches 44 = .ok (.aload_n 0, 1) := by decide +kernel
theorem d_Mo_catches_45 : decode b_Mo_catches 45 = .ok (.getfield 71, 3) := by decide +kernel
theorem d_Mo_catches_48 : decode b_Mo_catches 48 = .ok (.aload_n 0, 1) := by decide +kernel
theorem d_Mo_catches_49 : decode b_Mo_catches 49 = .ok (.getfield 116, 3) := by decide +kernel
theorem d_Mo_catches_52 : decode b_Mo_catches 52 = .ok (.iaload, 1) := by decide +kernel
theorem d_Mo_catches_53 : decode b_Mo_catches 53 = .ok (.invokevirtual 139, 3) := by decide +kernel
theorem d_Mo_catches_56 : decode b_Mo_catches 56 = .ok (.aload_n 0, 1) := by decide +kernel
theorem d_Mo_catches_57 : decode b_Mo_catches 57 = .ok (.getfield 71, 3) := by decide +kernel
theorem d_Mo_catches_60 : decode b_Mo_catches 60 = .ok (.aload_n 0, 1) := by decide +kernel
theorem d_Mo_catches_61 : decode b_Mo_catches 61 = .ok (.getfield 116, 3) := by decide +kernel
theorem d_Mo_catches_64 : decode b_Mo_catches 64 = .ok (.dup2, 1) := by decide +kernel
theorem d_Mo_catches_65 : decode b_Mo_catches 65 = .ok (.iaload, 1) := by decide +kernel
theorem d_Mo_catches_66 : decode b_Mo_catches 66 = .ok (.iconst 1, 1) := by decide +kernel
theorem d_Mo_catches_67 : decode b_Mo_catches 67 = .ok (.iadd, 1) := by decide +kernel
theorem d_Mo_catches_68 : decode b_Mo_catches 68 = .ok (.iastore, 1) := by decide +kernel
theorem d_Mo_catches_69 : decode b_Mo_catches 69 = .ok (.aload_n 0, 1) := by decide +kernel
theorem d_Mo_catches_70 : decode b_Mo_catches 70 = .ok (.getfield 74, 3) := by decide +kernel
theorem d_Mo_catches_73 : decode b_Mo_catches 73 = .ok (.aload_n 0, 1) := by decide +kernel
theorem d_Mo_catches_74 : decode b_Mo_catches 74 = .ok (.getfield 116, 3) := by decide +kernel
theorem d_Mo_catches_77 : decode b_Mo_catches 77 = .ok (.aload_n 0, 1) := by decide +kernel
theorem d_Mo_catches_78 : decode b_Mo_catches 78 = .ok (.iload_n 1, 1) := by decide +kernel
theorem d_Mo_catches_79 : decode b_Mo_catches 79 = .ok (.bipush (-2), 2) := by decide +kernel
theorem d_Mo_catches_81 : decode b_Mo_catches 81 = .ok (.aload_n 0, 1) := by decide +kernel
theorem d_Mo_catches_82 : decode b_Mo_catches 82 = .ok (.getfield 68, 3) := by decide +kernel
theorem d_Mo_catches_85 : decode b_Mo_catches 85 = .ok (.aload_n 0, 1) := by decide +kernel
theorem d_Mo_catches_86 : decode b_Mo_catches 86 = .ok (.getfield 116, 3) := by decide +kernel
theorem d_Mo_catches_89 : decode b_Mo_catches 89 = .ok (.iaload, 1) := by decide +kernel
theorem d_Mo_catches_90 : decode b_Mo_catches 90 = .ok (.invokevirtual 127, 3) := by decide +kernel
theorem d_Mo_catches_93 : decode b_Mo_catches 93 = .ok (.iastore, 1) := by decide +kernel
theorem d_Mo_catches_94 : decode b_Mo_catches 94 = .ok (.aload_n 0, 1) := by decide +kernel
theorem d_Mo_catches_95 : decode b_Mo_catches 95 = .ok (.getfield 65, 3) := by decide +kernel
theorem d_Mo_catches_98 : decode b_Mo_catches 98 = .ok (.aload_n 0, 1) := by decide +kernel
theorem d_Mo_catches_99 : decode b_Mo_catches 99 = .ok (.getfield 116, 3) := by decide +kernel
theorem d_Mo_catches_102 : decode b_Mo_catches 102 = .ok (.aload_n 0, 1) := by decide +kernel
theorem d_Mo_catches_103 : decode b_Mo_catches 103 = .ok (.getfield 74, 3) := by decide +kernel
theorem d_Mo_catches_106 : decode b_Mo_catches 106 = .ok (.aload_n 0, 1) := by decide +kernel
theorem d_Mo_catches_107 : decode b_Mo_catches 107 = .ok (.getfield 116, 3) := by decide +kernel
theorem d_Mo_catches_110 : decode b_Mo_catches 110 = .ok (.iaload, 1) := by decide +kernel
theorem d_Mo_catches_111 : decode b_Mo_catches 111 = .ok (.iastore, 1) := by decide +kernel
theorem d_Mo_catches_112 : decode b_Mo_catches 112 = .ok (.return_, 1) := by decide +kernel
theorem d_Mo_caughtRowEnds_0 : decode b_Mo_caughtRowEnds 0 = .ok (.aload_n 0, 1) := by decide +kernel
theorem d_Mo_caughtRowEnds_1 : decode b_Mo_caughtRowEnds 1 = .ok (.iload_n 1, 1) := by decide +kernel
theorem d_Mo_caughtRowEnds_2 : decode b_Mo_caughtRowEnds 2 = .ok (.bipush 6, 2) := by decide +kernel
theorem d_Mo_caughtRowEnds_4 : decode b_Mo_caughtRowEnds 4 = .ok (.iconst 0, 1) := by decide +kernel
theorem d_Mo_caughtRowEnds_5 : decode b_Mo_caughtRowEnds 5 = .ok (.invokevirtual 135, 3) := by decide +kernel
theorem d_Mo_caughtRowEnds_8 : decode b_Mo_caughtRowEnds 8 = .ok (.aload_n 0, 1) := by decide +kernel
theorem d_Mo_caughtRowEnds_9 : decode b_Mo_caughtRowEnds 9 = .ok (.iload_n 1, 1) := by decide +kernel
theorem d_Mo_caughtRowEnds_10 : decode b_Mo_caughtRowEnds 10 = .ok (.iconst 4, 1) := by decide +kernel
theorem d_Mo_caughtRowEnds_11 : decode b_Mo_caughtRowEnds 11 = .ok (.aload_n 0, 1) := by decide +kernel
theorem d_Mo_caughtRowEnds_12 : decode b_Mo_caughtRowEnds 12 = .ok (.getfield 116, 3) := by decide +kernel
theorem d_Mo_caughtRowEnds_15 : decode b_Mo_caughtRowEnds 15 = .ok (.ineg, 1) := by decide +kernel
theorem d_Mo_caughtRowEnds_16 : decode b_Mo_caughtRowEnds 16 = .ok (.invokevirtual 135, 3) := by decide +kernel
theorem d_Mo_caughtRowEnds_19 : decode b_Mo_caughtRowEnds 19 = .ok (.aload_n 0, 1) := by decide +kernel
theorem d_Mo_caughtRowEnds_20 : decode b_Mo_caughtRowEnds 20 = .ok (.iload_n 1, 1) := by decide +kernel
theorem d_Mo_caughtRowEnds_21 : decode b_Mo_caughtRowEnds 21 = .ok (.aload_n 0, 1) := by decide +kernel
theorem d_Mo_caughtRowEnds_22 : decode b_Mo_caughtRowEnds 22 = .ok (.getfield 74, 3) := by decide +kernel
theorem d_Mo_caughtRowEnds_25 : decode b_Mo_caughtRowEnds 25 = .ok (.aload_n 0, 1) := by decide +kernel
theorem d_Mo_caughtRowEnds_26 : decode b_Mo_caughtRowEnds 26 = .ok (.getfield 116, 3) := by decide +kernel
theorem d_Mo_caughtRowEnds_29 : decode b_Mo_caughtRowEnds 29 = .ok (.iaload, 1) := by decide +kernel
theorem d_Mo_caughtRowEnds_30 : decode b_Mo_caughtRowEnds 30 = .ok (.invokevirtual 139, 3) := by decide +kernel
theorem d_Mo_caughtRowEnds_33 : decode b_Mo_caughtRowEnds 33 = .ok (.aload_n 0, 1) := by decide +kernel
theorem d_Mo_caughtRowEnds_34 : decode b_Mo_caughtRowEnds 34 = .ok (.iload_n 1, 1) := by decide +kernel
theorem d_Mo_caughtRowEnds_35 : decode b_Mo_caughtRowEnds 35 = .ok (.bipush 6, 2) := by decide +kernel
theorem d_Mo_caughtRowEnds_37 : decode b_Mo_caughtRowEnds 37 = .ok (.iconst 0, 1) := by decide +kernel
theorem d_Mo_caughtRowEnds_38 : decode b_Mo_caughtRowEnds 38 = .ok (.invokevirtual 135, 3) := by decide +kernel
theorem d_Mo_caughtRowEnds_41 : decode b_Mo_caughtRowEnds 41 = .ok (.aload_n 0, 1) := by decide +kernel
theorem d_Mo_caughtRowEnds_42 : decode b_Mo_caughtRowEnds 42 = .ok (.iload_n 1, 1) := by decide +kernel
theorem d_Mo_caughtRowEnds_43 : decode b_Mo_caughtRowEnds 43 = .ok (.bipush 7, 2) := by decide +kernel
theorem d_Mo_caughtRowEnds_45 : decode b_Mo_caughtRowEnds 45 = .ok (.iconst 0, 1) := by decide +kernel
theorem d_Mo_caughtRowEnds_46 : decode b_Mo_caughtRowEnds 46 = .ok (.invokevirtual 135, 3) := by decide +kernel
theorem d_Mo_caughtRowEnds_49 : decode b_Mo_caughtRowEnds 49 = .ok (.return_, 1) := by decide +kernel
theorem d_Mo_lands_0 : decode b_Mo_lands 0 = .ok (.aload_n 0, 1) := by decide +kernel
theorem d_Mo_lands_1 : decode b_Mo_lands 1 = .ok (.getfield 44, 3) := by decide +kernel
theorem d_Mo_lands_4 : decode b_Mo_lands 4 = .ok (.bipush 48, 2) := by decide +kernel
theorem d_Mo_lands_6 : decode b_Mo_lands 6 = .ok (.iload_n 1, 1) := by decide +kernel
theorem d_Mo_lands_7 : decode b_Mo_lands 7 = .ok (.imul, 1) := by decide +kernel
theorem d_Mo_lands_8 : decode b_Mo_lands 8 = .ok (.iload_n 2, 1) := by decide +kernel
theorem d_Mo_lands_9 : decode b_Mo_lands 9 = .ok (.iadd, 1) := by decide +kernel
theorem d_Mo_lands_10 : decode b_Mo_lands 10 = .ok (.aload_n 0, 1) := by decide +kernel
theorem d_Mo_lands_11 : decode b_Mo_lands 11 = .ok (.getfield 26, 3) := by decide +kernel
theorem d_Mo_lands_14 : decode b_Mo_lands 14 = .ok (.iload_n 1, 1) := by decide +kernel
theorem d_Mo_lands_15 : decode b_Mo_lands 15 = .ok (.iaload, 1) := by decide +kernel
theorem d_Mo_lands_16 : decode b_Mo_lands 16 = .ok (.iastore, 1) := by decide +kernel
theorem d_Mo_lands_17 : decode b_Mo_lands 17 = .ok (.return_, 1) := by decide +kernel
theorem d_Mo_ends_0 : decode b_Mo_ends 0 = .ok (.aload_n 0, 1) := by decide +kernel
theorem d_Mo_ends_1 : decode b_Mo_ends 1 = .ok (.getfield 62, 3) := by decide +kernel
theorem d_Mo_ends_4 : decode b_Mo_ends 4 = .ok (.aload_n 0, 1) := by decide +kernel
theorem d_Mo_ends_5 : decode b_Mo_ends 5 = .ok (.getfield 116, 3) := by decide +kernel
theorem d_Mo_ends_8 : decode b_Mo_ends 8 = .ok (.iaload, 1) := by decide +kernel
theorem d_Mo_ends_9 : decode b_Mo_ends 9 = .ok (.iconst 4, 1) := by decide +kernel
theorem d_Mo_ends_10 : decode b_Mo_ends 10 = .ok (.if_icmp .ne 11, 3) := by decide +kernel
theorem d_Mo_ends_13 : decode b_Mo_ends 13 = .ok (.aload_n 0, 1) := by decide +kernel
theorem d_Mo_ends_14 : decode b_Mo_ends 14 = .ok (.iload_n 1, 1) := by decide +kernel
theorem d_Mo_ends_15 : decode b_Mo_ends 15 = .ok (.invokevirtual 142, 3) := by decide +kernel
theorem d_Mo_ends_18 : decode b_Mo_ends 18 = .ok (.goto 66, 3) := by decide +kernel
theorem d_Mo_ends_21 : decode b_Mo_ends 21 = .ok (.aload_n 0, 1) := by decide +kernel
theorem d_Mo_ends_22 : decode b_Mo_ends 22 = .ok (.iload_n 1, 1) := by decide +kernel
theorem d_Mo_ends_23 : decode b_Mo_ends 23 = .ok (.iconst 5, 1) := by decide +kernel
theorem d_Mo_ends_24 : decode b_Mo_ends 24 = .ok (.aload_n 0, 1) := by decide +kernel
theorem d_Mo_ends_25 : decode b_Mo_ends 25 = .ok (.getfield 77, 3) := by decide +kernel
theorem d_Mo_ends_28 : decode b_Mo_ends 28 = .ok (.aload_n 0, 1) := by decide +kernel
theorem d_Mo_ends_29 : decode b_Mo_ends 29 = .ok (.getfield 116, 3) := by decide +kernel
theorem d_Mo_ends_32 : decode b_Mo_ends 32 = .ok (.iaload, 1) := by decide +kernel
theorem d_Mo_ends_33 : decode b_Mo_ends 33 = .ok (.invokevirtual 135, 3) := by decide +kernel
theorem d_Mo_ends_36 : decode b_Mo_ends 36 = .ok (.aload_n 0, 1) := by decide +kernel
