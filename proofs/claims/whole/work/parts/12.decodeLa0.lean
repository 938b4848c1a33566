theorem d_La_type_0 : decode b_La_type 0 = .ok (.aload_n 2, 1) := by decide +kernel
theorem d_La_type_1 : decode b_La_type 1 = .ok (.iconst 0, 1) := by decide +kernel
theorem d_La_type_2 : decode b_La_type 2 = .ok (.aload_n 0, 1) := by decide +kernel
theorem d_La_type_3 : decode b_La_type 3 = .ok (.iload_n 1, 1) := by decide +kernel
theorem d_La_type_4 : decode b_La_type 4 = .ok (.invokevirtual 7, 3) := by decide +kernel
theorem d_La_type_7 : decode b_La_type 7 = .ok (.i2l, 1) := by decide +kernel
theorem d_La_type_8 : decode b_La_type 8 = .ok (.lastore, 1) := by decide +kernel
theorem d_La_type_9 : decode b_La_type 9 = .ok (.goto 9, 3) := by decide +kernel
theorem d_La_type_12 : decode b_La_type 12 = .ok (.astore_n 3, 1) := by decide +kernel
theorem d_La_type_13 : decode b_La_type 13 = .ok (.iconst 1, 1) := by decide +kernel
theorem d_La_type_14 : decode b_La_type 14 = .ok (.ireturn, 1) := by decide +kernel
theorem d_La_type_15 : decode b_La_type 15 = .ok (.astore_n 3, 1) := by decide +kernel
theorem d_La_type_16 : decode b_La_type 16 = .ok (.iconst 2, 1) := by decide +kernel
theorem d_La_type_17 : decode b_La_type 17 = .ok (.ireturn, 1) := by decide +kernel
theorem d_La_type_18 : decode b_La_type 18 = .ok (.iconst 0, 1) := by decide +kernel
theorem d_La_type_19 : decode b_La_type 19 = .ok (.ireturn, 1) := by decide +kernel
theorem d_La_add_0 : decode b_La_add 0 = .ok (.aload 4, 2) := by decide +kernel
theorem d_La_add_2 : decode b_La_add 2 = .ok (.iconst 0, 1) := by decide +kernel
theorem d_La_add_3 : decode b_La_add 3 = .ok (.aload_n 0, 1) := by decide +kernel
theorem d_La_add_4 : decode b_La_add 4 = .ok (.iload_n 1, 1) := by decide +kernel
theorem d_La_add_5 : decode b_La_add 5 = .ok (.iload_n 2, 1) := by decide +kernel
theorem d_La_add_6 : decode b_La_add 6 = .ok (.iload_n 3, 1) := by decide +kernel
theorem d_La_add_7 : decode b_La_add 7 = .ok (.invokevirtual 17, 3) := by decide +kernel
theorem d_La_add_10 : decode b_La_add 10 = .ok (.i2l, 1) := by decide +kernel
theorem d_La_add_11 : decode b_La_add 11 = .ok (.lastore, 1) := by decide +kernel
theorem d_La_add_12 : decode b_La_add 12 = .ok (.goto 11, 3) := by decide +kernel
theorem d_La_add_15 : decode b_La_add 15 = .ok (.astore 5, 2) := by decide +kernel
theorem d_La_add_17 : decode b_La_add 17 = .ok (.iconst 1, 1) := by decide +kernel
theorem d_La_add_18 : decode b_La_add 18 = .ok (.ireturn, 1) := by decide +kernel
theorem d_La_add_19 : decode b_La_add 19 = .ok (.astore 5, 2) := by decide +kernel
theorem d_La_add_21 : decode b_La_add 21 = .ok (.iconst 2, 1) := by decide +kernel
theorem d_La_add_22 : decode b_La_add 22 = .ok (.ireturn, 1) := by decide +kernel
theorem d_La_add_23 : decode b_La_add 23 = .ok (.iconst 0, 1) := by decide +kernel
theorem d_La_add_24 : decode b_La_add 24 = .ok (.ireturn, 1) := by decide +kernel
theorem d_La_wipe_0 : decode b_La_wipe 0 = .ok (.aload_n 0, 1) := by decide +kernel
theorem d_La_wipe_1 : decode b_La_wipe 1 = .ok (.iload_n 1, 1) := by decide +kernel
theorem d_La_wipe_2 : decode b_La_wipe 2 = .ok (.invokevirtual 21, 3) := by decide +kernel
theorem d_La_wipe_5 : decode b_La_wipe 5 = .ok (.goto 6, 3) := by decide +kernel
theorem d_La_wipe_8 : decode b_La_wipe 8 = .ok (.astore_n 2, 1) := by decide +kernel
theorem d_La_wipe_9 : decode b_La_wipe 9 = .ok (.iconst 1, 1) := by decide +kernel
theorem d_La_wipe_10 : decode b_La_wipe 10 = .ok (.ireturn, 1) := by decide +kernel
theorem d_La_wipe_11 : decode b_La_wipe 11 = .ok (.iconst 0, 1) := by decide +kernel
theorem d_La_wipe_12 : decode b_La_wipe 12 = .ok (.ireturn, 1) := by decide +kernel
theorem d_La_compile_0 : decode b_La_compile 0 = .ok (.aload_n 2, 1) := by decide +kernel
theorem d_La_compile_1 : decode b_La_compile 1 = .ok (.iconst 0, 1) := by decide +kernel
theorem d_La_compile_2 : decode b_La_compile 2 = .ok (.aload_n 0, 1) := by decide +kernel
theorem d_La_compile_3 : decode b_La_compile 3 = .ok (.iload_n 1, 1) := by decide +kernel
theorem d_La_compile_4 : decode b_La_compile 4 = .ok (.invokevirtual 25, 3) := by decide +kernel
theorem d_La_compile_7 : decode b_La_compile 7 = .ok (.i2l, 1) := by decide +kernel
theorem d_La_compile_8 : decode b_La_compile 8 = .ok (.lastore, 1) := by decide +kernel
theorem d_La_compile_9 : decode b_La_compile 9 = .ok (.goto 9, 3) := by decide +kernel
theorem d_La_compile_12 : decode b_La_compile 12 = .ok (.astore_n 3, 1) := by decide +kernel
theorem d_La_compile_13 : decode b_La_compile 13 = .ok (.iconst 1, 1) := by decide +kernel
theorem d_La_compile_14 : decode b_La_compile 14 = .ok (.ireturn, 1) := by decide +kernel
theorem d_La_compile_15 : decode b_La_compile 15 = .ok (.astore_n 3, 1) := by decide +kernel
theorem d_La_compile_16 : decode b_La_compile 16 = .ok (.iconst 2, 1) := by decide +kernel
theorem d_La_compile_17 : decode b_La_compile 17 = .ok (.ireturn, 1) := by decide +kernel
theorem d_La_compile_18 : decode b_La_compile 18 = .ok (.iconst 0, 1) := by decide +kernel
theorem d_La_compile_19 : decode b_La_compile 19 = .ok (.ireturn, 1) := by decide +kernel
theorem d_La_size_0 : decode b_La_size 0 = .ok (.aload_n 3, 1) := by decide +kernel
theorem d_La_size_1 : decode b_La_size 1 = .ok (.iconst 0, 1) := by decide +kernel
theorem d_La_size_2 : decode b_La_size 2 = .ok (.aload_n 0, 1) := by decide +kernel
theorem d_La_size_3 : decode b_La_size 3 = .ok (.iload_n 1, 1) := by decide +kernel
theorem d_La_size_4 : decode b_La_size 4 = .ok (.iload_n 2, 1) := by decide +kernel
theorem d_La_size_5 : decode b_La_size 5 = .ok (.invokevirtual 28, 3) := by decide +kernel
theorem d_La_size_8 : decode b_La_size 8 = .ok (.i2l, 1) := by decide +kernel
theorem d_La_size_9 : decode b_La_size 9 = .ok (.lastore, 1) := by decide +kernel
theorem d_La_size_10 : decode b_La_size 10 = .ok (.goto 7, 3) := by decide +kernel
theorem d_La_size_13 : decode b_La_size 13 = .ok (.astore 4, 2) := by decide +kernel
theorem d_La_size_15 : decode b_La_size 15 = .ok (.iconst 1, 1) := by decide +kernel
theorem d_La_size_16 : decode b_La_size 16 = .ok (.ireturn, 1) := by decide +kernel
theorem d_La_size_17 : decode b_La_size 17 = .ok (.iconst 0, 1) := by decide +kernel
theorem d_La_size_18 : decode b_La_size 18 = .ok (.ireturn, 1) := by decide +kernel
theorem d_La_code_0 : decode b_La_code 0 = .ok (.aload 4, 2) := by decide +kernel
theorem d_La_code_2 : decode b_La_code 2 = .ok (.iconst 0, 1) := by decide +kernel
theorem d_La_code_3 : decode b_La_code 3 = .ok (.aload_n 0, 1) := by decide +kernel
theorem d_La_code_4 : decode b_La_code 4 = .ok (.iload_n 1, 1) := by decide +kernel
theorem d_La_code_5 : decode b_La_code 5 = .ok (.iload_n 2, 1) := by decide +kernel
theorem d_La_code_6 : decode b_La_code 6 = .ok (.iload_n 3, 1) := by decide +kernel
theorem d_La_code_7 : decode b_La_code 7 = .ok (.invokevirtual 32, 3) := by decide +kernel
theorem d_La_code_10 : decode b_La_code 10 = .ok (.i2l, 1) := by decide +kernel
theorem d_La_code_11 : decode b_La_code 11 = .ok (.lastore, 1) := by decide +kernel
theorem d_La_code_12 : decode b_La_code 12 = .ok (.goto 7, 3) := by decide +kernel
theorem d_La_code_15 : decode b_La_code 15 = .ok (.astore 5, 2) := by decide +kernel
theorem d_La_code_17 : decode b_La_code 17 = .ok (.iconst 1, 1) := by decide +kernel
theorem d_La_code_18 : decode b_La_code 18 = .ok (.ireturn, 1) := by decide +kernel
theorem d_La_code_19 : decode b_La_code 19 = .ok (.iconst 0, 1) := by decide +kernel
theorem d_La_code_20 : decode b_La_code 20 = .ok (.ireturn, 1) := by decide +kernel
theorem d_La_action_0 : decode b_La_action 0 = .ok (.aload 4, 2) := by decide +kernel
theorem d_La_action_2 : decode b_La_action 2 = .ok (.iconst 0, 1) := by decide +kernel
theorem d_La_action_3 : decode b_La_action 3 = .ok (.aload_n 0, 1) := by decide +kernel
theorem d_La_action_4 : decode b_La_action 4 = .ok (.iload_n 1, 1) := by decide +kernel
theorem d_La_action_5 : decode b_La_action 5 = .ok (.iload_n 2, 1) := by decide +kernel
theorem d_La_action_6 : decode b_La_action 6 = .ok (.iload_n 3, 1) := by decide +kernel
theorem d_La_action_7 : decode b_La_action 7 = .ok (.invokevirtual 37, 3) := by decide +kernel
theorem d_La_action_10 : decode b_La_action 10 = .ok (.i2l, 1) := by decide +kernel
theorem d_La_action_11 : decode b_La_action 11 = .ok (.lastore, 1) := by decide +kernel
theorem d_La_action_12 : decode b_La_action 12 = .ok (.goto 7, 3) := by decide +kernel
theorem d_La_action_15 : decode b_La_action 15 = .ok (.astore 5, 2) := by decide +kernel
theorem d_La_action_17 : decode b_La_action 17 = .ok (.iconst 1, 1) := by decide +kernel
theorem d_La_action_18 : decode b_La_action 18 = .ok (.ireturn, 1) := by decide +kernel
theorem d_La_action_19 : decode b_La_action 19 = .ok (.iconst 0, 1) := by decide +kernel
theorem d_La_action_20 : decode b_La_action 20 = .ok (.ireturn, 1) := by decide +kernel
theorem d_La_site_0 : decode b_La_site 0 = .ok (.aload 4, 2) := by decide +kernel
theorem d_La_site_2 : decode b_La_site 2 = .ok (.iconst 0, 1) := by decide +kernel
theorem d_La_site_3 : decode b_La_site 3 = .ok (.aload_n 0, 1) := by decide +kernel
theorem d_La_site_4 : decode b_La_site 4 = .ok (.iload_n 1, 1) := by decide +kernel
theorem d_La_site_5 : decode b_La_site 5 = .ok (.iload_n 2, 1) := by decide +kernel
theorem d_La_site_6 : decode b_La_site 6 = .ok (.iload_n 3, 1) := by decide +kernel
theorem d_La_site_7 : decode b_La_site 7 = .ok (.invokevirtual 40, 3) := by decide +kernel
theorem d_La_site_10 : decode b_La_site 10 = .ok (.i2l, 1) := by decide +kernel
theorem d_La_site_11 : decode b_La_site 11 = .ok (.lastore, 1) := by decide +kernel
theorem d_La_site_12 : decode b_La_site 12 = .ok (.goto 7, 3) := by decide +kernel
theorem d_La_site_15 : decode b_La_site 15 = .ok (.astore 5, 2) := by decide +kernel
theorem d_La_site_17 : decode b_La_site 17 = .ok (.iconst 1, 1) := by decide +kernel
theorem d_La_site_18 : decode b_La_site 18 = .ok (.ireturn, 1) := by decide +kernel
theorem d_La_site_19 : decode b_La_site 19 = .ok (.iconst 0, 1) := by decide +kernel
theorem d_La_site_20 : decode b_La_site 20 = .ok (.ireturn, 1) := by decide +kernel
theorem d_La_run_0 : decode b_La_run 0 = .ok (.aload_n 2, 1) := by decide +kernel
theorem d_La_run_1 : decode b_La_run 1 = .ok (.iconst 0, 1) := by decide +kernel
theorem d_La_run_2 : decode b_La_run 2 = .ok (.aload_n 0, 1) := by decide +kernel
theorem d_La_run_3 : decode b_La_run 3 = .ok (.iload_n 1, 1) := by decide +kernel
theorem d_La_run_4 : decode b_La_run 4 = .ok (.invokevirtual 43, 3) := by decide +kernel
theorem d_La_run_7 : decode b_La_run 7 = .ok (.i2l, 1) := by decide +kernel
theorem d_La_run_8 : decode b_La_run 8 = .ok (.lastore, 1) := by decide +kernel
theorem d_La_run_9 : decode b_La_run 9 = .ok (.goto 9, 3) := by decide +kernel
theorem d_La_run_12 : decode b_La_run 12 = .ok (.astore_n 3, 1) := by decide +kernel
theorem d_La_run_13 : decode b_La_run 13 = .ok (.iconst 1, 1) := by decide +kernel
theorem d_La_run_14 : decode b_La_run 14 = .ok (.ireturn, 1) := by decide +kernel
theorem d_La_run_15 : decode b_La_run 15 = .ok (.astore_n 3, 1) := by decide +kernel
theorem d_La_run_16 : decode b_La_run 16 = .ok (.iconst 2, 1) := by decide +kernel
theorem d_La_run_17 : decode b_La_run 17 = .ok (.ireturn, 1) := by decide +kernel
theorem d_La_run_18 : decode b_La_run 18 = .ok (.iconst 0, 1) := by decide +kernel
theorem d_La_run_19 : decode b_La_run 19 = .ok (.ireturn, 1) := by decide +kernel
theorem d_La_count_0 : decode b_La_count 0 = .ok (.aload_n 2, 1) := by decide +kernel
theorem d_La_count_1 : decode b_La_count 1 = .ok (.iconst 0, 1) := by decide +kernel
theorem d_La_count_2 : decode b_La_count 2 = .ok (.aload_n 0, 1) := by decide +kernel
theorem d_La_count_3 : decode b_La_count 3 = .ok (.iload_n 1, 1) := by decide +kernel
theorem d_La_count_4 : decode b_La_count 4 = .ok (.invokevirtual 46, 3) := by decide +kernel
theorem d_La_count_7 : decode b_La_count 7 = .ok (.i2l, 1) := by decide +kernel
theorem d_La_count_8 : decode b_La_count 8 = .ok (.lastore, 1) := by decide +kernel
theorem d_La_count_9 : decode b_La_count 9 = .ok (.goto 6, 3) := by decide +kernel
theorem d_La_count_12 : decode b_La_count 12 = .ok (.astore_n 3, 1) := by decide +kernel
theorem d_La_count_13 : decode b_La_count 13 = .ok (.iconst 1, 1) := by decide +kernel
theorem d_La_count_14 : decode b_La_count 14 = .ok (.ireturn, 1) := by decide +kernel
theorem d_La_count_15 : decode b_La_count 15 = .ok (.iconst 0, 1) := by decide +kernel
theorem d_La_count_16 : decode b_La_count 16 = .ok (.ireturn, 1) := by decide +kernel
theorem d_La_out_0 : decode b_La_out 0 = .ok (.aload_n 2, 1) := by decide +kernel
theorem d_La_out_1 : decode b_La_out 1 = .ok (.iconst 0, 1) := by decide +kernel
theorem d_La_out_2 : decode b_La_out 2 = .ok (.aload_n 0, 1) := by decide +kernel
theorem d_La_out_3 : decode b_La_out 3 = .ok (.iload_n 1, 1) := by decide +kernel
theorem d_La_out_4 : decode b_La_out 4 = .ok (.invokevirtual 49, 3) := by decide +kernel
theorem d_La_out_7 : decode b_La_out 7 = .ok (.i2l, 1) := by decide +kernel
theorem d_La_out_8 : decode b_La_out 8 = .ok (.lastore, 1) := by decide +kernel
theorem d_La_out_9 : decode b_La_out 9 = .ok (.goto 6, 3) := by decide +kernel
theorem d_La_out_12 : decode b_La_out 12 = .ok (.astore_n 3, 1) := by decide +kernel
theorem d_La_out_13 : decode b_La_out 13 = .ok (.iconst 1, 1) := by decide +kernel
theorem d_La_out_14 : decode b_La_out 14 = .ok (.ireturn, 1) := by decide +kernel
theorem d_La_out_15 : decode b_La_out 15 = .ok (.iconst 0, 1) := by decide +kernel
theorem d_La_out_16 : decode b_La_out 16 = .ok (.ireturn, 1) := by decide +kernel
theorem d_La_law_0 : decode code 0 = .ok (.new 8, 3) := by decide +kernel
theorem d_La_law_3 : decode code 3 = .ok (.dup, 1) := by decide +kernel
theorem d_La_law_4 : decode code 4 = .ok (.invokespecial 52, 3) := by decide +kernel
theorem d_La_law_7 : decode code 7 = .ok (.astore_n 1, 1) := by decide +kernel
theorem d_La_law_8 : decode code 8 = .ok (.new 53, 3) := by decide +kernel
theorem d_La_law_11 : decode code 11 = .ok (.dup, 1) := by decide +kernel
theorem d_La_law_12 : decode code 12 = .ok (.invokespecial 55, 3) := by decide +kernel
theorem d_La_law_15 : decode code 15 = .ok (.astore_n 2, 1) := by decide +kernel
theorem d_La_law_16 : decode code 16 = .ok (.iconst 1, 1) := by decide +kernel
theorem d_La_law_17 : decode code 17 = .ok (.newarray .long, 2) := by decide +kernel
theorem d_La_law_19 : decode code 19 = .ok (.astore_n 3, 1) := by decide +kernel
theorem d_La_law_20 : decode code 20 = .ok (.iconst 0, 1) := by decide +kernel
theorem d_La_law_21 : decode code 21 = .ok (.istore 4, 2) := by decide +kernel
theorem d_La_law_23 : decode code 23 = .ok (.iload 4, 2) := by decide +kernel
theorem d_La_law_25 : decode code 25 = .ok (.aload_n 0, 1) := by decide +kernel
theorem d_La_law_26 : decode code 26 = .ok (.arraylength, 1) := by decide +kernel
theorem d_La_law_27 : decode code 27 = .ok (.iconst 4, 1) := by decide +kernel
theorem d_La_law_28 : decode code 28 = .ok (.isub, 1) := by decide +kernel
theorem d_La_law_29 : decode code 29 = .ok (.if_icmp .gt 777, 3) := by decide +kernel
theorem d_La_law_32 : decode code 32 = .ok (.aload_n 0, 1) := by decide +kernel
theorem d_La_law_33 : decode code 33 = .ok (.iload 4, 2) := by decide +kernel
theorem d_La_law_35 : decode code 35 = .ok (.iaload, 1) := by decide +kernel
theorem d_La_law_36 : decode code 36 = .ok (.bipush 15, 2) := by decide +kernel
theorem d_La_law_38 : decode code 38 = .ok (.iand, 1) := by decide +kernel
theorem d_La_law_39 : decode code 39 = .ok (.tableswitch 761 0 10 #[57, 113, 193, 229, 285, 353, 433, 513, 593, 649, 705], 57) := by decide +kernel
theorem d_La_law_96 : decode code 96 = .ok (.aload_n 1, 1) := by decide +kernel
theorem d_La_law_97 : decode code 97 = .ok (.aload_n 0, 1) := by decide +kernel
theorem d_La_law_98 : decode code 98 = .ok (.iload 4, 2) := by decide +kernel
theorem d_La_law_100 : decode code 100 = .ok (.iconst 1, 1) := by decide +kernel
theorem d_La_law_101 : decode code 101 = .ok (.iadd, 1) := by decide +kernel
theorem d_La_law_102 : decode code 102 = .ok (.iaload, 1) := by decide +kernel
theorem d_La_law_103 : decode code 103 = .ok (.aload_n 3, 1) := by decide +kernel
theorem d_La_law_104 : decode code 104 = .ok (.invokestatic 56, 3) := by decide +kernel
theorem d_La_law_107 : decode code 107 = .ok (.istore 5, 2) := by decide +kernel
theorem d_La_law_109 : decode code 109 = .ok (.aload_n 2, 1) := by decide +kernel
theorem d_La_law_110 : decode code 110 = .ok (.aload_n 0, 1) := by decide +kernel
theorem d_La_law_111 : decode code 111 = .ok (.iload 4, 2) := by decide +kernel
theorem d_La_law_113 : decode code 113 = .ok (.iconst 1, 1) := by decide +kernel
theorem d_La_law_114 : decode code 114 = .ok (.iadd, 1) := by decide +kernel
theorem d_La_law_115 : decode code 115 = .ok (.iaload, 1) := by decide +kernel
theorem d_La_law_116 : decode code 116 = .ok (.invokevirtual 61, 3) := by decide +kernel
theorem d_La_law_119 : decode code 119 = .ok (.istore 6, 2) := by decide +kernel
theorem d_La_law_121 : decode code 121 = .ok (.aload_n 2, 1) := by decide +kernel
theorem d_La_law_122 : decode code 122 = .ok (.invokevirtual 62, 3) := by decide +kernel
theorem d_La_law_125 : decode code 125 = .ok (.iload 5, 2) := by decide +kernel
theorem d_La_law_127 : decode code 127 = .ok (.if_icmp .eq 5, 3) := by decide +kernel
theorem d_La_law_130 : decode code 130 = .ok (.iconst 0, 1) := by decide +kernel
theorem d_La_law_131 : decode code 131 = .ok (.ireturn, 1) := by decide +kernel
theorem d_La_law_132 : decode code 132 = .ok (.iload 5, 2) := by decide +kernel
theorem d_La_law_134 : decode code 134 = .ok (.ifCond .ne 15, 3) := by decide +kernel
theorem d_La_law_137 : decode code 137 = .ok (.aload_n 3, 1) := by decide +kernel
theorem d_La_law_138 : decode code 138 = .ok (.iconst 0, 1) := by decide +kernel
theorem d_La_law_139 : decode code 139 = .ok (.laload, 1) := by decide +kernel
theorem d_La_law_140 : decode code 140 = .ok (.iload 6, 2) := by decide +kernel
theorem d_La_law_142 : decode code 142 = .ok (.i2l, 1) := by decide +kernel
theorem d_La_law_143 : decode code 143 = .ok (.lcmp, 1) := by decide +kernel
theorem d_La_law_144 : decode code 144 = .ok (.ifCond .eq 5, 3) := by decide +kernel
theorem d_La_law_147 : decode code 147 = .ok (.iconst 0, 1) := by decide +kernel
theorem d_La_law_148 : decode code 148 = .ok (.ireturn, 1) := by decide +kernel
theorem d_La_law_149 : decode code 149 = .ok (.goto 651, 3) := by decide +kernel
theorem d_La_law_152 : decode code 152 = .ok (.aload_n 1, 1) := by decide +kernel
theorem d_La_law_153 : decode code 153 = .ok (.aload_n 0, 1) := by decide +kernel
theorem d_La_law_154 : decode code 154 = .ok (.iload 4, 2) := by decide +kernel
theorem d_La_law_156 : decode code 156 = .ok (.iconst 1, 1) := by decide +kernel
theorem d_La_law_157 : decode code 157 = .ok (.iadd, 1) := by decide +kernel
theorem d_La_law_158 : decode code 158 = .ok (.iaload, 1) := by decide +kernel
theorem d_La_law_159 : decode code 159 = .ok (.aload_n 0, 1) := by decide +kernel
theorem d_La_law_160 : decode code 160 = .ok (.iload 4, 2) := by decide +kernel
theorem d_La_law_162 : decode code 162 = .ok (.iconst 2, 1) := by decide +kernel
theorem d_La_law_163 : decode code 163 = .ok (.iadd, 1) := by decide +kernel
theorem d_La_law_164 : decode code 164 = .ok (.iaload, 1) := by decide +kernel
theorem d_La_law_165 : decode code 165 = .ok (.aload_n 0, 1) := by decide +kernel
theorem d_La_law_166 : decode code 166 = .ok (.iload 4, 2) := by decide +kernel
theorem d_La_law_168 : decode code 168 = .ok (.iconst 3, 1) := by decide +kernel
theorem d_La_law_169 : decode code 169 = .ok (.iadd, 1) := by decide +kernel
theorem d_La_law_170 : decode code 170 = .ok (.iaload, 1) := by decide +kernel
theorem d_La_law_171 : decode code 171 = .ok (.aload_n 3, 1) := by decide +kernel
theorem d_La_law_172 : decode code 172 = .ok (.invokestatic 66, 3) := by decide +kernel
theorem d_La_law_175 : decode code 175 = .ok (.istore 5, 2) := by decide +kernel
theorem d_La_law_177 : decode code 177 = .ok (.aload_n 2, 1) := by decide +kernel
theorem d_La_law_178 : decode code 178 = .ok (.aload_n 0, 1) := by decide +kernel
theorem d_La_law_179 : decode code 179 = .ok (.iload 4, 2) := by decide +kernel
theorem d_La_law_181 : decode code 181 = .ok (.iconst 1, 1) := by decide +kernel
theorem d_La_law_182 : decode code 182 = .ok (.iadd, 1) := by decide +kernel
theorem d_La_law_183 : decode code 183 = .ok (.iaload, 1) := by decide +kernel
theorem d_La_law_184 : decode code 184 = .ok (.aload_n 0, 1) := by decide +kernel
theorem d_La_law_185 : decode code 185 = .ok (.iload 4, 2) := by decide +kernel
theorem d_La_law_187 : decode code 187 = .ok (.iconst 2, 1) := by decide +kernel
theorem d_La_law_188 : decode code 188 = .ok (.iadd, 1) := by decide +kernel
theorem d_La_law_189 : decode code 189 = .ok (.iaload, 1) := by decide +kernel
theorem d_La_law_190 : decode code 190 = .ok (.aload_n 0, 1) := by decide +kernel
theorem d_La_law_191 : decode code 191 = .ok (.iload 4, 2) := by decide +kernel
theorem d_La_law_193 : decode code 193 = .ok (.iconst 3, 1) := by decide +kernel
theorem d_La_law_194 : decode code 194 = .ok (.iadd, 1) := by decide +kernel
theorem d_La_law_195 : decode code 195 = .ok (.iaload, 1) := by decide +kernel
theorem d_La_law_196 : decode code 196 = .ok (.invokevirtual 69, 3) := by decide +kernel
theorem d_La_law_199 : decode code 199 = .ok (.istore 6, 2) := by decide +kernel
theorem d_La_law_201 : decode code 201 = .ok (.aload_n 2, 1) := by decide +kernel
theorem d_La_law_202 : decode code 202 = .ok (.invokevirtual 62, 3) := by decide +kernel
theorem d_La_law_205 : decode code 205 = .ok (.iload 5, 2) := by decide +kernel
theorem d_La_law_207 : decode code 207 = .ok (.if_icmp .eq 5, 3) := by decide +kernel
theorem d_La_law_210 : decode code 210 = .ok (.iconst 0, 1) := by decide +kernel
theorem d_La_law_211 : decode code 211 = .ok (.ireturn, 1) := by decide +kernel
theorem d_La_law_212 : decode code 212 = .ok (.iload 5, 2) := by decide +kernel
theorem d_La_law_214 : decode code 214 = .ok (.ifCond .ne 15, 3) := by decide +kernel
theorem d_La_law_217 : decode code 217 = .ok (.aload_n 3, 1) := by decide +kernel
theorem d_La_law_218 : decode code 218 = .ok (.iconst 0, 1) := by decide +kernel
theorem d_La_law_219 : decode code 219 = .ok (.laload, 1) := by decide +kernel
theorem d_La_law_220 : decode code 220 = .ok (.iload 6, 2) := by decide +kernel
theorem d_La_law_222 : decode code 222 = .ok (.i2l, 1) := by decide +kernel
theorem d_La_law_223 : decode code 223 = .ok (.lcmp, 1) := by decide +kernel
theorem d_La_law_224 : decode code 224 = .ok (.ifCond .eq 5, 3) := by decide +kernel
theorem d_La_law_227 : decode code 227 = .ok (.iconst 0, 1) := by decide +kernel
theorem d_La_law_228 : decode code 228 = .ok (.ireturn, 1) := by decide +kernel
theorem d_La_law_229 : decode code 229 = .ok (.goto 571, 3) := by decide +kernel
theorem d_La_law_232 : decode code 232 = .ok (.aload_n 1, 1) := by decide +kernel
theorem d_La_law_233 : decode code 233 = .ok (.aload_n 0, 1) := by decide +kernel
theorem d_La_law_234 : decode code 234 = .ok (.iload 4, 2) := by decide +kernel
theorem d_La_law_236 : decode code 236 = .ok (.iconst 1, 1) := by decide +kernel
theorem d_La_law_237 : decode code 237 = .ok (.iadd, 1) := by decide +kernel
theorem d_La_law_238 : decode code 238 = .ok (.iaload, 1) := by decide +kernel
theorem d_La_law_239 : decode code 239 = .ok (.invokestatic 70, 3) := by decide +kernel
theorem d_La_law_242 : decode code 242 = .ok (.istore 5, 2) := by decide +kernel
theorem d_La_law_244 : decode code 244 = .ok (.aload_n 2, 1) := by decide +kernel
theorem d_La_law_245 : decode code 245 = .ok (.aload_n 0, 1) := by decide +kernel
theorem d_La_law_246 : decode code 246 = .ok (.iload 4, 2) := by decide +kernel
theorem d_La_law_248 : decode code 248 = .ok (.iconst 1, 1) := by decide +kernel
theorem d_La_law_249 : decode code 249 = .ok (.iadd, 1) := by decide +kernel
theorem d_La_law_250 : decode code 250 = .ok (.iaload, 1) := by decide +kernel
theorem d_La_law_251 : decode code 251 = .ok (.invokevirtual 73, 3) := by decide +kernel
theorem d_La_law_254 : decode code 254 = .ok (.aload_n 2, 1) := by decide +kernel
theorem d_La_law_255 : decode code 255 = .ok (.invokevirtual 62, 3) := by decide +kernel
theorem d_La_law_258 : decode code 258 = .ok (.iload 5, 2) := by decide +kernel
theorem d_La_law_260 : decode code 260 = .ok (.if_icmp .eq 5, 3) := by decide +kernel
theorem d_La_law_263 : decode code 263 = .ok (.iconst 0, 1) := by decide +kernel
theorem d_La_law_264 : decode code 264 = .ok (.ireturn, 1) := by decide +kernel
theorem d_La_law_265 : decode code 265 = .ok (.goto 535, 3) := by decide +kernel
theorem d_La_law_268 : decode code 268 = .ok (.aload_n 1, 1) := by decide +kernel
theorem d_La_law_269 : decode code 269 = .ok (.aload_n 0, 1) := by decide +kernel
theorem d_La_law_270 : decode code 270 = .ok (.iload 4, 2) := by decide +kernel
theorem d_La_law_272 : decode code 272 = .ok (.iconst 1, 1) := by decide +kernel
theorem d_La_law_273 : decode code 273 = .ok (.iadd, 1) := by decide +kernel
theorem d_La_law_274 : decode code 274 = .ok (.iaload, 1) := by decide +kernel
theorem d_La_law_275 : decode code 275 = .ok (.aload_n 3, 1) := by decide +kernel
theorem d_La_law_276 : decode code 276 = .ok (.invokestatic 74, 3) := by decide +kernel
theorem d_La_law_279 : decode code 279 = .ok (.istore 5, 2) := by decide +kernel
theorem d_La_law_281 : decode code 281 = .ok (.aload_n 2, 1) := by decide +kernel
theorem d_La_law_282 : decode code 282 = .ok (.aload_n 0, 1) := by decide +kernel
theorem d_La_law_283 : decode code 283 = .ok (.iload 4, 2) := by decide +kernel
theorem d_La_law_285 : decode code 285 = .ok (.iconst 1, 1) := by decide +kernel
theorem d_La_law_286 : decode code 286 = .ok (.iadd, 1) := by decide +kernel
theorem d_La_law_287 : decode code 287 = .ok (.iaload, 1) := by decide +kernel
theorem d_La_law_288 : decode code 288 = .ok (.invokevirtual 76, 3) := by decide +kernel
theorem d_La_law_291 : decode code 291 = .ok (.istore 6, 2) := by decide +kernel
theorem d_La_law_293 : decode code 293 = .ok (.aload_n 2, 1) := by decide +kernel
theorem d_La_law_294 : decode code 294 = .ok (.invokevirtual 62, 3) := by decide +kernel
theorem d_La_law_297 : decode code 297 = .ok (.iload 5, 2) := by decide +kernel
theorem d_La_law_299 : decode code 299 = .ok (.if_icmp .eq 5, 3) := by decide +kernel
theorem d_La_law_302 : decode code 302 = .ok (.iconst 0, 1) := by decide +kernel
theorem d_La_law_303 : decode code 303 = .ok (.ireturn, 1) := by decide +kernel
theorem d_La_law_304 : decode code 304 = .ok (.iload 5, 2) := by decide +kernel
theorem d_La_law_306 : decode code 306 = .ok (.ifCond .ne 15, 3) := by decide +kernel
theorem d_La_law_309 : decode code 309 = .ok (.aload_n 3, 1) := by decide +kernel
theorem d_La_law_310 : decode code 310 = .ok (.iconst 0, 1) := by decide +kernel
theorem d_La_law_311 : decode code 311 = .ok (.laload, 1) := by decide +kernel
theorem d_La_law_312 : decode code 312 = .ok (.iload 6, 2) := by decide +kernel
theorem d_La_law_314 : decode code 314 = .ok (.i2l, 1) := by decide +kernel
theorem d_La_law_315 : decode code 315 = .ok (.lcmp, 1) := by decide +kernel
theorem d_La_law_316 : decode code 316 = .ok (.ifCond .eq 5, 3) := by decide +kernel
theorem d_La_law_319 : decode code 319 = .ok (.iconst 0, 1) := by decide +kernel
theorem d_La_law_320 : decode code 320 = .ok (.ireturn, 1) := by decide +kernel
theorem d_La_law_321 : decode code 321 = .ok (.goto 479, 3) := by decide +kernel
theorem d_La_law_324 : decode code 324 = .ok (.aload_n 1, 1) := by decide +kernel
theorem d_La_law_325 : decode code 325 = .ok (.aload_n 0, 1) := by decide +kernel
theorem d_La_law_326 : decode code 326 = .ok (.iload 4, 2) := by decide +kernel
theorem d_La_law_328 : decode code 328 = .ok (.iconst 1, 1) := by decide +kernel
theorem d_La_law_329 : decode code 329 = .ok (.iadd, 1) := by decide +kernel
theorem d_La_law_330 : decode code 330 = .ok (.iaload, 1) := by decide +kernel
theorem d_La_law_331 : decode code 331 = .ok (.aload_n 0, 1) := by decide +kernel
theorem d_La_law_332 : decode code 332 = .ok (.iload 4, 2) := by decide +kernel
theorem d_La_law_334 : decode code 334 = .ok (.iconst 2, 1) := by decide +kernel
theorem d_La_law_335 : decode code 335 = .ok (.iadd, 1) := by decide +kernel
theorem d_La_law_336 : decode code 336 = .ok (.iaload, 1) := by decide +kernel
theorem d_La_law_337 : decode code 337 = .ok (.aload_n 3, 1) := by decide +kernel
theorem d_La_law_338 : decode code 338 = .ok (.invokestatic 77, 3) := by decide +kernel
theorem d_La_law_341 : decode code 341 = .ok (.istore 5, 2) := by decide +kernel
theorem d_La_law_343 : decode code 343 = .ok (.aload_n 2, 1) := by decide +kernel
theorem d_La_law_344 : decode code 344 = .ok (.aload_n 0, 1) := by decide +kernel
theorem d_La_law_345 : decode code 345 = .ok (.iload 4, 2) := by decide +kernel
theorem d_La_law_347 : decode code 347 = .ok (.iconst 1, 1) := by decide +kernel
theorem d_La_law_348 : decode code 348 = .ok (.iadd, 1) := by decide +kernel
theorem d_La_law_349 : decode code 349 = .ok (.iaload, 1) := by decide +kernel
theorem d_La_law_350 : decode code 350 = .ok (.aload_n 0, 1) := by decide +kernel
theorem d_La_law_351 : decode code 351 = .ok (.iload 4, 2) := by decide +kernel
theorem d_La_law_353 : decode code 353 = .ok (.iconst 2, 1) := by decide +kernel
theorem d_La_law_354 : decode code 354 = .ok (.iadd, 1) := by decide +kernel
theorem d_La_law_355 : decode code 355 = .ok (.iaload, 1) := by decide +kernel
theorem d_La_law_356 : decode code 356 = .ok (.invokevirtual 80, 3) := by decide +kernel
theorem d_La_law_359 : decode code 359 = .ok (.istore 6, 2) := by decide +kernel
theorem d_La_law_361 : decode code 361 = .ok (.aload_n 2, 1) := by decide +kernel
theorem d_La_law_362 : decode code 362 = .ok (.invokevirtual 62, 3) := by decide +kernel
theorem d_La_law_365 : decode code 365 = .ok (.iload 5, 2) := by decide +kernel
theorem d_La_law_367 : decode code 367 = .ok (.if_icmp .eq 5, 3) := by decide +kernel
theorem d_La_law_370 : decode code 370 = .ok (.iconst 0, 1) := by decide +kernel
theorem d_La_law_371 : decode code 371 = .ok (.ireturn, 1) := by decide +kernel
theorem d_La_law_372 : decode code 372 = .ok (.iload 5, 2) := by decide +kernel
theorem d_La_law_374 : decode code 374 = .ok (.ifCond .ne 15, 3) := by decide +kernel
theorem d_La_law_377 : decode code 377 = .ok (.aload_n 3, 1) := by decide +kernel
theorem d_La_law_378 : decode code 378 = .ok (.iconst 0, 1) := by decide +kernel
theorem d_La_law_379 : decode code 379 = .ok (.laload, 1) := by decide +kernel
theorem d_La_law_380 : decode code 380 = .ok (.iload 6, 2) := by decide +kernel
theorem d_La_law_382 : decode code 382 = .ok (.i2l, 1) := by decide +kernel
theorem d_La_law_383 : decode code 383 = .ok (.lcmp, 1) := by decide +kernel
theorem d_La_law_384 : decode code 384 = .ok (.ifCond .eq 5, 3) := by decide +kernel
theorem d_La_law_387 : decode code 387 = .ok (.iconst 0, 1) := by decide +kernel
theorem d_La_law_388 : decode code 388 = .ok (.ireturn, 1) := by decide +kernel
theorem d_La_law_389 : decode code 389 = .ok (.goto 411, 3) := by decide +kernel
theorem d_La_law_392 : decode code 392 = .ok (.aload_n 1, 1) := by decide +kernel
theorem d_La_law_393 : decode code 393 = .ok (.aload_n 0, 1) := by decide +kernel
theorem d_La_law_394 : decode code 394 = .ok (.iload 4, 2) := by decide +kernel
theorem d_La_law_396 : decode code 396 = .ok (.iconst 1, 1) := by decide +kernel
theorem d_La_law_397 : decode code 397 = .ok (.iadd, 1) := by decide +kernel
theorem d_La_law_398 : decode code 398 = .ok (.iaload, 1) := by decide +kernel
theorem d_La_law_399 : decode code 399 = .ok (.aload_n 0, 1) := by decide +kernel
theorem d_La_law_400 : decode code 400 = .ok (.iload 4, 2) := by decide +kernel
theorem d_La_law_402 : decode code 402 = .ok (.iconst 2, 1) := by decide +kernel
theorem d_La_law_403 : decode code 403 = .ok (.iadd, 1) := by decide +kernel
theorem d_La_law_404 : decode code 404 = .ok (.iaload, 1) := by decide +kernel
theorem d_La_law_405 : decode code 405 = .ok (.aload_n 0, 1) := by decide +kernel
theorem d_La_law_406 : decode code 406 = .ok (.iload 4, 2) := by decide +kernel
theorem d_La_law_408 : decode code 408 = .ok (.iconst 3, 1) := by decide +kernel
theorem d_La_law_409 : decode code 409 = .ok (.iadd, 1) := by decide +kernel
theorem d_La_law_410 : decode code 410 = .ok (.iaload, 1) := by decide +kernel
theorem d_La_law_411 : decode code 411 = .ok (.aload_n 3, 1) := by decide +kernel
theorem d_La_law_412 : decode code 412 = .ok (.invokestatic 81, 3) := by decide +kernel
theorem d_La_law_415 : decode code 415 = .ok (.istore 5, 2) := by decide +kernel
theorem d_La_law_417 : decode code 417 = .ok (.aload_n 2, 1) := by decide +kernel
theorem d_La_law_418 : decode code 418 = .ok (.aload_n 0, 1) := by decide +kernel
theorem d_La_law_419 : decode code 419 = .ok (.iload 4, 2) := by decide +kernel
theorem d_La_law_421 : decode code 421 = .ok (.iconst 1, 1) := by decide +kernel
theorem d_La_law_422 : decode code 422 = .ok (.iadd, 1) := by decide +kernel
theorem d_La_law_423 : decode code 423 = .ok (.iaload, 1) := by decide +kernel
theorem d_La_law_424 : decode code 424 = .ok (.aload_n 0, 1) := by decide +kernel
theorem d_La_law_425 : decode code 425 = .ok (.iload 4, 2) := by decide +kernel
theorem d_La_law_427 : decode code 427 = .ok (.iconst 2, 1) := by decide +kernel
theorem d_La_law_428 : decode code 428 = .ok (.iadd, 1) := by decide +kernel
theorem d_La_law_429 : decode code 429 = .ok (.iaload, 1) := by decide +kernel
theorem d_La_law_430 : decode code 430 = .ok (.aload_n 0, 1) := by decide +kernel
theorem d_La_law_431 : decode code 431 = .ok (.iload 4, 2) := by decide +kernel
theorem d_La_law_433 : decode code 433 = .ok (.iconst 3, 1) := by decide +kernel
theorem d_La_law_434 : decode code 434 = .ok (.iadd, 1) := by decide +kernel
theorem d_La_law_435 : decode code 435 = .ok (.iaload, 1) := by decide +kernel
theorem d_La_law_436 : decode code 436 = .ok (.invokevirtual 83, 3) := by decide +kernel
theorem d_La_law_439 : decode code 439 = .ok (.istore 6, 2) := by decide +kernel
theorem d_La_law_441 : decode code 441 = .ok (.aload_n 2, 1) := by decide +kernel
theorem d_La_law_442 : decode code 442 = .ok (.invokevirtual 62, 3) := by decide +kernel
theorem d_La_law_445 : decode code 445 = .ok (.iload 5, 2) := by decide +kernel
theorem d_La_law_447 : decode code 447 = .ok (.if_icmp .eq 5, 3) := by decide +kernel
theorem d_La_law_450 : decode code 450 = .ok (.iconst 0, 1) := by decide +kernel
theorem d_La_law_451 : decode code 451 = .ok (.ireturn, 1) := by decide +kernel
theorem d_La_law_452 : decode code 452 = .ok (.iload 5, 2) := by decide +kernel
theorem d_La_law_454 : decode code 454 = .ok (.ifCond .ne 15, 3) := by decide +kernel
theorem d_La_law_457 : decode code 457 = .ok (.aload_n 3, 1) := by decide +kernel
theorem d_La_law_458 : decode code 458 = .ok (.iconst 0, 1) := by decide +kernel
theorem d_La_law_459 : decode code 459 = .ok (.laload, 1) := by decide +kernel
theorem d_La_law_460 : decode code 460 = .ok (.iload 6, 2) := by decide +kernel
theorem d_La_law_462 : decode code 462 = .ok (.i2l, 1) := by decide +kernel
theorem d_La_law_463 : decode code 463 = .ok (.lcmp, 1) := by decide +kernel
theorem d_La_law_464 : decode code 464 = .ok (.ifCond .eq 5, 3) := by decide +kernel
theorem d_La_law_467 : decode code 467 = .ok (.iconst 0, 1) := by decide +kernel
theorem d_La_law_468 : decode code 468 = .ok (.ireturn, 1) := by decide +kernel
theorem d_La_law_469 : decode code 469 = .ok (.goto 331, 3) := by decide +kernel
theorem d_La_law_472 : decode code 472 = .ok (.aload_n 1, 1) := by decide +kernel
theorem d_La_law_473 : decode code 473 = .ok (.aload_n 0, 1) := by decide +kernel
theorem d_La_law_474 : decode code 474 = .ok (.iload 4, 2) := by decide +kernel
theorem d_La_law_476 : decode code 476 = .ok (.iconst 1, 1) := by decide +kernel
theorem d_La_law_477 : decode code 477 = .ok (.iadd, 1) := by decide +kernel
theorem d_La_law_478 : decode code 478 = .ok (.iaload, 1) := by decide +kernel
theorem d_La_law_479 : decode code 479 = .ok (.aload_n 0, 1) := by decide +kernel
theorem d_La_law_480 : decode code 480 = .ok (.iload 4, 2) := by decide +kernel
theorem d_La_law_482 : decode code 482 = .ok (.iconst 2, 1) := by decide +kernel
theorem d_La_law_483 : decode code 483 = .ok (.iadd, 1) := by decide +kernel
theorem d_La_law_484 : decode code 484 = .ok (.iaload, 1) := by decide +kernel
theorem d_La_law_485 : decode code 485 = .ok (.aload_n 0, 1) := by decide +kernel
theorem d_La_law_486 : decode code 486 = .ok (.iload 4, 2) := by decide +kernel
theorem d_La_law_488 : decode code 488 = .ok (.iconst 3, 1) := by decide +kernel
theorem d_La_law_489 : decode code 489 = .ok (.iadd, 1) := by decide +kernel
theorem d_La_law_490 : decode code 490 = .ok (.iaload, 1) := by decide +kernel
theorem d_La_law_491 : decode code 491 = .ok (.aload_n 3, 1) := by decide +kernel
theorem d_La_law_492 : decode code 492 = .ok (.invokestatic 84, 3) := by decide +kernel
theorem d_La_law_495 : decode code 495 = .ok (.istore 5, 2) := by decide +kernel
theorem d_La_law_497 : decode code 497 = .ok (.aload_n 2, 1) := by decide +kernel
theorem d_La_law_498 : decode code 498 = .ok (.aload_n 0, 1) := by decide +kernel
theorem d_La_law_499 : decode code 499 = .ok (.iload 4, 2) := by decide +kernel
theorem d_La_law_501 : decode code 501 = .ok (.iconst 1, 1) := by decide +kernel
theorem d_La_law_502 : decode code 502 = .ok (.iadd, 1) := by decide +kernel
theorem d_La_law_503 : decode code 503 = .ok (.iaload, 1) := by decide +kernel
theorem d_La_law_504 : decode code 504 = .ok (.aload_n 0, 1) := by decide +kernel
theorem d_La_law_505 : decode code 505 = .ok (.iload 4, 2) := by decide +kernel
theorem d_La_law_507 : decode code 507 = .ok (.iconst 2, 1) := by decide +kernel
theorem d_La_law_508 : decode code 508 = .ok (.iadd, 1) := by decide +kernel
theorem d_La_law_509 : decode code 509 = .ok (.iaload, 1) := by decide +kernel
theorem d_La_law_510 : decode code 510 = .ok (.aload_n 0, 1) := by decide +kernel
theorem d_La_law_511 : decode code 511 = .ok (.iload 4, 2) := by decide +kernel
theorem d_La_law_513 : decode code 513 = .ok (.iconst 3, 1) := by decide +kernel
theorem d_La_law_514 : decode code 514 = .ok (.iadd, 1) := by decide +kernel
theorem d_La_law_515 : decode code 515 = .ok (.iaload, 1) := by decide +kernel
theorem d_La_law_516 : decode code 516 = .ok (.invokevirtual 86, 3) := by decide +kernel
theorem d_La_law_519 : decode code 519 = .ok (.istore 6, 2) := by decide +kernel
theorem d_La_law_521 : decode code 521 = .ok (.aload_n 2, 1) := by decide +kernel
theorem d_La_law_522 : decode code 522 = .ok (.invokevirtual 62, 3) := by decide +kernel
theorem d_La_law_525 : decode code 525 = .ok (.iload 5, 2) := by decide +kernel
theorem d_La_law_527 : decode code 527 = .ok (.if_icmp .eq 5, 3) := by decide +kernel
theorem d_La_law_530 : decode code 530 = .ok (.iconst 0, 1) := by decide +kernel
theorem d_La_law_531 : decode code 531 = .ok (.ireturn, 1) := by decide +kernel
theorem d_La_law_532 : decode code 532 = .ok (.iload 5, 2) := by decide +kernel
theorem d_La_law_534 : decode code 534 = .ok (.ifCond .ne 15, 3) := by decide +kernel
theorem d_La_law_537 : decode code 537 = .ok (.aload_n 3, 1) := by decide +kernel
theorem d_La_law_538 : decode code 538 = .ok (.iconst 0, 1) := by decide +kernel
theorem d_La_law_539 : decode code 539 = .ok (.laload, 1) := by decide +kernel
theorem d_La_law_540 : decode code 540 = .ok (.iload 6, 2) := by decide +kernel
theorem d_La_law_542 : decode code 542 = .ok (.i2l, 1) := by decide +kernel
theorem d_La_law_543 : decode code 543 = .ok (.lcmp, 1) := by decide +kernel
theorem d_La_law_544 : decode code 544 = .ok (.ifCond .eq 5, 3) := by decide +kernel
theorem d_La_law_547 : decode code 547 = .ok (.iconst 0, 1) := by decide +kernel
theorem d_La_law_548 : decode code 548 = .ok (.ireturn, 1) := by decide +kernel
theorem d_La_law_549 : decode code 549 = .ok (.goto 251, 3) := by decide +kernel
theorem d_La_law_552 : decode code 552 = .ok (.aload_n 1, 1) := by decide +kernel
theorem d_La_law_553 : decode code 553 = .ok (.aload_n 0, 1) := by decide +kernel
theorem d_La_law_554 : decode code 554 = .ok (.iload 4, 2) := by decide +kernel
theorem d_La_law_556 : decode code 556 = .ok (.iconst 1, 1) := by decide +kernel
theorem d_La_law_557 : decode code 557 = .ok (.iadd, 1) := by decide +kernel
theorem d_La_law_558 : decode code 558 = .ok (.iaload, 1) := by decide +kernel
theorem d_La_law_559 : decode code 559 = .ok (.aload_n 0, 1) := by decide +kernel
theorem d_La_law_560 : decode code 560 = .ok (.iload 4, 2) := by decide +kernel
theorem d_La_law_562 : decode code 562 = .ok (.iconst 2, 1) := by decide +kernel
theorem d_La_law_563 : decode code 563 = .ok (.iadd, 1) := by decide +kernel
theorem d_La_law_564 : decode code 564 = .ok (.iaload, 1) := by decide +kernel
theorem d_La_law_565 : decode code 565 = .ok (.aload_n 0, 1) := by decide +kernel
theorem d_La_law_566 : decode code 566 = .ok (.iload 4, 2) := by decide +kernel
