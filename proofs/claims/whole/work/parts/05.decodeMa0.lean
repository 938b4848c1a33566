theorem d_Ma_init_0 : decode b_Ma_init 0 = .ok (.aload_n 0, 1) := by decide +kernel
theorem d_Ma_init_1 : decode b_Ma_init 1 = .ok (.invokespecial 3, 3) := by decide +kernel
theorem d_Ma_init_4 : decode b_Ma_init 4 = .ok (.aload_n 0, 1) := by decide +kernel
theorem d_Ma_init_5 : decode b_Ma_init 5 = .ok (.new 9, 3) := by decide +kernel
theorem d_Ma_init_8 : decode b_Ma_init 8 = .ok (.dup, 1) := by decide +kernel
theorem d_Ma_init_9 : decode b_Ma_init 9 = .ok (.invokespecial 11, 3) := by decide +kernel
theorem d_Ma_init_12 : decode b_Ma_init 12 = .ok (.putfield 12, 3) := by decide +kernel
theorem d_Ma_init_15 : decode b_Ma_init 15 = .ok (.aload_n 0, 1) := by decide +kernel
theorem d_Ma_init_16 : decode b_Ma_init 16 = .ok (.new 18, 3) := by decide +kernel
theorem d_Ma_init_19 : decode b_Ma_init 19 = .ok (.dup, 1) := by decide +kernel
theorem d_Ma_init_20 : decode b_Ma_init 20 = .ok (.invokespecial 20, 3) := by decide +kernel
theorem d_Ma_init_23 : decode b_Ma_init 23 = .ok (.putfield 21, 3) := by decide +kernel
theorem d_Ma_init_26 : decode b_Ma_init 26 = .ok (.aload_n 0, 1) := by decide +kernel
theorem d_Ma_init_27 : decode b_Ma_init 27 = .ok (.bipush 6, 2) := by decide +kernel
theorem d_Ma_init_29 : decode b_Ma_init 29 = .ok (.anewarray 25, 3) := by decide +kernel
theorem d_Ma_init_32 : decode b_Ma_init 32 = .ok (.putfield 27, 3) := by decide +kernel
theorem d_Ma_init_35 : decode b_Ma_init 35 = .ok (.iconst 0, 1) := by decide +kernel
theorem d_Ma_init_36 : decode b_Ma_init 36 = .ok (.istore_n 1, 1) := by decide +kernel
theorem d_Ma_init_37 : decode b_Ma_init 37 = .ok (.iload_n 1, 1) := by decide +kernel
theorem d_Ma_init_38 : decode b_Ma_init 38 = .ok (.bipush 6, 2) := by decide +kernel
theorem d_Ma_init_40 : decode b_Ma_init 40 = .ok (.if_icmp .ge 22, 3) := by decide +kernel
theorem d_Ma_init_43 : decode b_Ma_init 43 = .ok (.aload_n 0, 1) := by decide +kernel
theorem d_Ma_init_44 : decode b_Ma_init 44 = .ok (.getfield 27, 3) := by decide +kernel
theorem d_Ma_init_47 : decode b_Ma_init 47 = .ok (.iload_n 1, 1) := by decide +kernel
theorem d_Ma_init_48 : decode b_Ma_init 48 = .ok (.new 25, 3) := by decide +kernel
theorem d_Ma_init_51 : decode b_Ma_init 51 = .ok (.dup, 1) := by decide +kernel
theorem d_Ma_init_52 : decode b_Ma_init 52 = .ok (.invokespecial 31, 3) := by decide +kernel
theorem d_Ma_init_55 : decode b_Ma_init 55 = .ok (.aastore, 1) := by decide +kernel
theorem d_Ma_init_56 : decode b_Ma_init 56 = .ok (.iinc 1 1, 3) := by decide +kernel
theorem d_Ma_init_59 : decode b_Ma_init 59 = .ok (.goto (-22), 3) := by decide +kernel
theorem d_Ma_init_62 : decode b_Ma_init 62 = .ok (.aload_n 0, 1) := by decide +kernel
theorem d_Ma_init_63 : decode b_Ma_init 63 = .ok (.bipush 8, 2) := by decide +kernel
theorem d_Ma_init_65 : decode b_Ma_init 65 = .ok (.anewarray 32, 3) := by decide +kernel
theorem d_Ma_init_68 : decode b_Ma_init 68 = .ok (.putfield 34, 3) := by decide +kernel
theorem d_Ma_init_71 : decode b_Ma_init 71 = .ok (.iconst 0, 1) := by decide +kernel
theorem d_Ma_init_72 : decode b_Ma_init 72 = .ok (.istore_n 1, 1) := by decide +kernel
theorem d_Ma_init_73 : decode b_Ma_init 73 = .ok (.iload_n 1, 1) := by decide +kernel
theorem d_Ma_init_74 : decode b_Ma_init 74 = .ok (.bipush 8, 2) := by decide +kernel
theorem d_Ma_init_76 : decode b_Ma_init 76 = .ok (.if_icmp .ge 22, 3) := by decide +kernel
theorem d_Ma_init_79 : decode b_Ma_init 79 = .ok (.aload_n 0, 1) := by decide +kernel
theorem d_Ma_init_80 : decode b_Ma_init 80 = .ok (.getfield 34, 3) := by decide +kernel
theorem d_Ma_init_83 : decode b_Ma_init 83 = .ok (.iload_n 1, 1) := by decide +kernel
theorem d_Ma_init_84 : decode b_Ma_init 84 = .ok (.new 32, 3) := by decide +kernel
theorem d_Ma_init_87 : decode b_Ma_init 87 = .ok (.dup, 1) := by decide +kernel
theorem d_Ma_init_88 : decode b_Ma_init 88 = .ok (.invokespecial 38, 3) := by decide +kernel
theorem d_Ma_init_91 : decode b_Ma_init 91 = .ok (.aastore, 1) := by decide +kernel
theorem d_Ma_init_92 : decode b_Ma_init 92 = .ok (.iinc 1 1, 3) := by decide +kernel
theorem d_Ma_init_95 : decode b_Ma_init 95 = .ok (.goto (-22), 3) := by decide +kernel
theorem d_Ma_init_98 : decode b_Ma_init 98 = .ok (.return_, 1) := by decide +kernel
theorem d_Ma_execute_0 : decode b_Ma_execute 0 = .ok (.aload_n 0, 1) := by decide +kernel
theorem d_Ma_execute_1 : decode b_Ma_execute 1 = .ok (.getfield 21, 3) := by decide +kernel
theorem d_Ma_execute_4 : decode b_Ma_execute 4 = .ok (.invokevirtual 39, 3) := by decide +kernel
theorem d_Ma_execute_7 : decode b_Ma_execute 7 = .ok (.aload_n 0, 1) := by decide +kernel
theorem d_Ma_execute_8 : decode b_Ma_execute 8 = .ok (.iconst 0, 1) := by decide +kernel
theorem d_Ma_execute_9 : decode b_Ma_execute 9 = .ok (.putfield 42, 3) := by decide +kernel
theorem d_Ma_execute_12 : decode b_Ma_execute 12 = .ok (.aload_n 0, 1) := by decide +kernel
theorem d_Ma_execute_13 : decode b_Ma_execute 13 = .ok (.iload_n 1, 1) := by decide +kernel
theorem d_Ma_execute_14 : decode b_Ma_execute 14 = .ok (.invokevirtual 46, 3) := by decide +kernel
theorem d_Ma_execute_17 : decode b_Ma_execute 17 = .ok (.istore_n 2, 1) := by decide +kernel
theorem d_Ma_execute_18 : decode b_Ma_execute 18 = .ok (.iload_n 2, 1) := by decide +kernel
theorem d_Ma_execute_19 : decode b_Ma_execute 19 = .ok (.iconst (-1), 1) := by decide +kernel
theorem d_Ma_execute_20 : decode b_Ma_execute 20 = .ok (.if_icmp .ne 41, 3) := by decide +kernel
theorem d_Ma_execute_23 : decode b_Ma_execute 23 = .ok (.aload_n 0, 1) := by decide +kernel
theorem d_Ma_execute_24 : decode b_Ma_execute 24 = .ok (.getfield 21, 3) := by decide +kernel
theorem d_Ma_execute_27 : decode b_Ma_execute 27 = .ok (.getfield 50, 3) := by decide +kernel
theorem d_Ma_execute_30 : decode b_Ma_execute 30 = .ok (.sipush 300, 3) := by decide +kernel
theorem d_Ma_execute_33 : decode b_Ma_execute 33 = .ok (.if_icmp .ge 28, 3) := by decide +kernel
theorem d_Ma_execute_36 : decode b_Ma_execute 36 = .ok (.aload_n 0, 1) := by decide +kernel
theorem d_Ma_execute_37 : decode b_Ma_execute 37 = .ok (.getfield 21, 3) := by decide +kernel
theorem d_Ma_execute_40 : decode b_Ma_execute 40 = .ok (.dup, 1) := by decide +kernel
theorem d_Ma_execute_41 : decode b_Ma_execute 41 = .ok (.getfield 50, 3) := by decide +kernel
theorem d_Ma_execute_44 : decode b_Ma_execute 44 = .ok (.iconst 1, 1) := by decide +kernel
theorem d_Ma_execute_45 : decode b_Ma_execute 45 = .ok (.iadd, 1) := by decide +kernel
theorem d_Ma_execute_46 : decode b_Ma_execute 46 = .ok (.putfield 50, 3) := by decide +kernel
theorem d_Ma_execute_49 : decode b_Ma_execute 49 = .ok (.aload_n 0, 1) := by decide +kernel
theorem d_Ma_execute_50 : decode b_Ma_execute 50 = .ok (.aload_n 0, 1) := by decide +kernel
theorem d_Ma_execute_51 : decode b_Ma_execute 51 = .ok (.invokevirtual 53, 3) := by decide +kernel
theorem d_Ma_execute_54 : decode b_Ma_execute 54 = .ok (.invokevirtual 57, 3) := by decide +kernel
theorem d_Ma_execute_57 : decode b_Ma_execute 57 = .ok (.istore_n 2, 1) := by decide +kernel
theorem d_Ma_execute_58 : decode b_Ma_execute 58 = .ok (.goto (-40), 3) := by decide +kernel
theorem d_Ma_execute_61 : decode b_Ma_execute 61 = .ok (.iload_n 2, 1) := by decide +kernel
theorem d_Ma_execute_62 : decode b_Ma_execute 62 = .ok (.iconst (-1), 1) := by decide +kernel
theorem d_Ma_execute_63 : decode b_Ma_execute 63 = .ok (.if_icmp .ne 7, 3) := by decide +kernel
theorem d_Ma_execute_66 : decode b_Ma_execute 66 = .ok (.iconst 3, 1) := by decide +kernel
theorem d_Ma_execute_67 : decode b_Ma_execute 67 = .ok (.goto 4, 3) := by decide +kernel
theorem d_Ma_execute_70 : decode b_Ma_execute 70 = .ok (.iload_n 2, 1) := by decide +kernel
theorem d_Ma_execute_71 : decode b_Ma_execute 71 = .ok (.ireturn, 1) := by decide +kernel
theorem d_Ma_enter_0 : decode b_Ma_enter 0 = .ok (.iload_n 1, 1) := by decide +kernel
theorem d_Ma_enter_1 : decode b_Ma_enter 1 = .ok (.invokestatic 119, 3) := by decide +kernel
theorem d_Ma_enter_4 : decode b_Ma_enter 4 = .ok (.ifCond .eq 15, 3) := by decide +kernel
theorem d_Ma_enter_7 : decode b_Ma_enter 7 = .ok (.aload_n 0, 1) := by decide +kernel
theorem d_Ma_enter_8 : decode b_Ma_enter 8 = .ok (.getfield 27, 3) := by decide +kernel
theorem d_Ma_enter_11 : decode b_Ma_enter 11 = .ok (.iload_n 1, 1) := by decide +kernel
theorem d_Ma_enter_12 : decode b_Ma_enter 12 = .ok (.aaload, 1) := by decide +kernel
theorem d_Ma_enter_13 : decode b_Ma_enter 13 = .ok (.invokevirtual 123, 3) := by decide +kernel
theorem d_Ma_enter_16 : decode b_Ma_enter 16 = .ok (.ifCond .ne 5, 3) := by decide +kernel
theorem d_Ma_enter_19 : decode b_Ma_enter 19 = .ok (.iconst 4, 1) := by decide +kernel
theorem d_Ma_enter_20 : decode b_Ma_enter 20 = .ok (.ireturn, 1) := by decide +kernel
theorem d_Ma_enter_21 : decode b_Ma_enter 21 = .ok (.aload_n 0, 1) := by decide +kernel
theorem d_Ma_enter_22 : decode b_Ma_enter 22 = .ok (.getfield 42, 3) := by decide +kernel
theorem d_Ma_enter_25 : decode b_Ma_enter 25 = .ok (.bipush 8, 2) := by decide +kernel
theorem d_Ma_enter_27 : decode b_Ma_enter 27 = .ok (.if_icmp .lt 5, 3) := by decide +kernel
theorem d_Ma_enter_30 : decode b_Ma_enter 30 = .ok (.iconst 2, 1) := by decide +kernel
theorem d_Ma_enter_31 : decode b_Ma_enter 31 = .ok (.ireturn, 1) := by decide +kernel
theorem d_Ma_enter_32 : decode b_Ma_enter 32 = .ok (.aload_n 0, 1) := by decide +kernel
theorem d_Ma_enter_33 : decode b_Ma_enter 33 = .ok (.getfield 34, 3) := by decide +kernel
theorem d_Ma_enter_36 : decode b_Ma_enter 36 = .ok (.aload_n 0, 1) := by decide +kernel
theorem d_Ma_enter_37 : decode b_Ma_enter 37 = .ok (.getfield 42, 3) := by decide +kernel
theorem d_Ma_enter_40 : decode b_Ma_enter 40 = .ok (.aaload, 1) := by decide +kernel
theorem d_Ma_enter_41 : decode b_Ma_enter 41 = .ok (.iload_n 1, 1) := by decide +kernel
theorem d_Ma_enter_42 : decode b_Ma_enter 42 = .ok (.invokevirtual 126, 3) := by decide +kernel
theorem d_Ma_enter_45 : decode b_Ma_enter 45 = .ok (.aload_n 0, 1) := by decide +kernel
theorem d_Ma_enter_46 : decode b_Ma_enter 46 = .ok (.dup, 1) := by decide +kernel
theorem d_Ma_enter_47 : decode b_Ma_enter 47 = .ok (.getfield 42, 3) := by decide +kernel
theorem d_Ma_enter_50 : decode b_Ma_enter 50 = .ok (.iconst 1, 1) := by decide +kernel
theorem d_Ma_enter_51 : decode b_Ma_enter 51 = .ok (.iadd, 1) := by decide +kernel
theorem d_Ma_enter_52 : decode b_Ma_enter 52 = .ok (.putfield 42, 3) := by decide +kernel
theorem d_Ma_enter_55 : decode b_Ma_enter 55 = .ok (.aload_n 0, 1) := by decide +kernel
theorem d_Ma_enter_56 : decode b_Ma_enter 56 = .ok (.getfield 21, 3) := by decide +kernel
theorem d_Ma_enter_59 : decode b_Ma_enter 59 = .ok (.aload_n 0, 1) := by decide +kernel
theorem d_Ma_enter_60 : decode b_Ma_enter 60 = .ok (.getfield 21, 3) := by decide +kernel
theorem d_Ma_enter_63 : decode b_Ma_enter 63 = .ok (.getfield 129, 3) := by decide +kernel
theorem d_Ma_enter_66 : decode b_Ma_enter 66 = .ok (.aload_n 0, 1) := by decide +kernel
theorem d_Ma_enter_67 : decode b_Ma_enter 67 = .ok (.getfield 42, 3) := by decide +kernel
theorem d_Ma_enter_70 : decode b_Ma_enter 70 = .ok (.invokestatic 132, 3) := by decide +kernel
theorem d_Ma_enter_73 : decode b_Ma_enter 73 = .ok (.putfield 129, 3) := by decide +kernel
theorem d_Ma_enter_76 : decode b_Ma_enter 76 = .ok (.iconst (-1), 1) := by decide +kernel
theorem d_Ma_enter_77 : decode b_Ma_enter 77 = .ok (.ireturn, 1) := by decide +kernel
theorem d_Ma_top_0 : decode b_Ma_top 0 = .ok (.aload_n 0, 1) := by decide +kernel
theorem d_Ma_top_1 : decode b_Ma_top 1 = .ok (.getfield 34, 3) := by decide +kernel
theorem d_Ma_top_4 : decode b_Ma_top 4 = .ok (.aload_n 0, 1) := by decide +kernel
theorem d_Ma_top_5 : decode b_Ma_top 5 = .ok (.getfield 42, 3) := by decide +kernel
theorem d_Ma_top_8 : decode b_Ma_top 8 = .ok (.ifCond .le 12, 3) := by decide +kernel
theorem d_Ma_top_11 : decode b_Ma_top 11 = .ok (.aload_n 0, 1) := by decide +kernel
theorem d_Ma_top_12 : decode b_Ma_top 12 = .ok (.getfield 42, 3) := by decide +kernel
theorem d_Ma_top_15 : decode b_Ma_top 15 = .ok (.iconst 1, 1) := by decide +kernel
theorem d_Ma_top_16 : decode b_Ma_top 16 = .ok (.isub, 1) := by decide +kernel
theorem d_Ma_top_17 : decode b_Ma_top 17 = .ok (.goto 4, 3) := by decide +kernel
theorem d_Ma_top_20 : decode b_Ma_top 20 = .ok (.iconst 0, 1) := by decide +kernel
theorem d_Ma_top_21 : decode b_Ma_top 21 = .ok (.aaload, 1) := by decide +kernel
theorem d_Ma_top_22 : decode b_Ma_top 22 = .ok (.areturn, 1) := by decide +kernel
theorem d_Ma_step_0 : decode b_Ma_step 0 = .ok (.aload_n 0, 1) := by decide +kernel
theorem d_Ma_step_1 : decode b_Ma_step 1 = .ok (.getfield 27, 3) := by decide +kernel
theorem d_Ma_step_4 : decode b_Ma_step 4 = .ok (.aload_n 1, 1) := by decide +kernel
theorem d_Ma_step_5 : decode b_Ma_step 5 = .ok (.getfield 61, 3) := by decide +kernel
theorem d_Ma_step_8 : decode b_Ma_step 8 = .ok (.aaload, 1) := by decide +kernel
theorem d_Ma_step_9 : decode b_Ma_step 9 = .ok (.astore_n 2, 1) := by decide +kernel
theorem d_Ma_step_10 : decode b_Ma_step 10 = .ok (.aload_n 2, 1) := by decide +kernel
theorem d_Ma_step_11 : decode b_Ma_step 11 = .ok (.aload_n 1, 1) := by decide +kernel
theorem d_Ma_step_12 : decode b_Ma_step 12 = .ok (.getfield 64, 3) := by decide +kernel
theorem d_Ma_step_15 : decode b_Ma_step 15 = .ok (.invokevirtual 67, 3) := by decide +kernel
theorem d_Ma_step_18 : decode b_Ma_step 18 = .ok (.istore_n 3, 1) := by decide +kernel
theorem d_Ma_step_19 : decode b_Ma_step 19 = .ok (.aload_n 2, 1) := by decide +kernel
theorem d_Ma_step_20 : decode b_Ma_step 20 = .ok (.aload_n 1, 1) := by decide +kernel
theorem d_Ma_step_21 : decode b_Ma_step 21 = .ok (.getfield 64, 3) := by decide +kernel
theorem d_Ma_step_24 : decode b_Ma_step 24 = .ok (.invokevirtual 70, 3) := by decide +kernel
theorem d_Ma_step_27 : decode b_Ma_step 27 = .ok (.istore 4, 2) := by decide +kernel
theorem d_Ma_step_29 : decode b_Ma_step 29 = .ok (.aload_n 1, 1) := by decide +kernel
theorem d_Ma_step_30 : decode b_Ma_step 30 = .ok (.dup, 1) := by decide +kernel
theorem d_Ma_step_31 : decode b_Ma_step 31 = .ok (.getfield 64, 3) := by decide +kernel
theorem d_Ma_step_34 : decode b_Ma_step 34 = .ok (.iconst 1, 1) := by decide +kernel
theorem d_Ma_step_35 : decode b_Ma_step 35 = .ok (.iadd, 1) := by decide +kernel
theorem d_Ma_step_36 : decode b_Ma_step 36 = .ok (.putfield 64, 3) := by decide +kernel
theorem d_Ma_step_39 : decode b_Ma_step 39 = .ok (.iload_n 3, 1) := by decide +kernel
theorem d_Ma_step_40 : decode b_Ma_step 40 = .ok (.tableswitch 112 0 7 #[48, 55, 62, 69, 78, 86, 93, 99], 48) := by decide +kernel
theorem d_Ma_step_88 : decode b_Ma_step 88 = .ok (.aload_n 0, 1) := by decide +kernel
theorem d_Ma_step_89 : decode b_Ma_step 89 = .ok (.iload 4, 2) := by decide +kernel
theorem d_Ma_step_91 : decode b_Ma_step 91 = .ok (.invokevirtual 73, 3) := by decide +kernel
theorem d_Ma_step_94 : decode b_Ma_step 94 = .ok (.ireturn, 1) := by decide +kernel
theorem d_Ma_step_95 : decode b_Ma_step 95 = .ok (.aload_n 0, 1) := by decide +kernel
theorem d_Ma_step_96 : decode b_Ma_step 96 = .ok (.iload 4, 2) := by decide +kernel
theorem d_Ma_step_98 : decode b_Ma_step 98 = .ok (.invokevirtual 46, 3) := by decide +kernel
theorem d_Ma_step_101 : decode b_Ma_step 101 = .ok (.ireturn, 1) := by decide +kernel
theorem d_Ma_step_102 : decode b_Ma_step 102 = .ok (.aload_n 0, 1) := by decide +kernel
theorem d_Ma_step_103 : decode b_Ma_step 103 = .ok (.iload 4, 2) := by decide +kernel
theorem d_Ma_step_105 : decode b_Ma_step 105 = .ok (.invokevirtual 76, 3) := by decide +kernel
theorem d_Ma_step_108 : decode b_Ma_step 108 = .ok (.ireturn, 1) := by decide +kernel
theorem d_Ma_step_109 : decode b_Ma_step 109 = .ok (.aload_n 0, 1) := by decide +kernel
theorem d_Ma_step_110 : decode b_Ma_step 110 = .ok (.aload_n 1, 1) := by decide +kernel
theorem d_Ma_step_111 : decode b_Ma_step 111 = .ok (.invokevirtual 79, 3) := by decide +kernel
theorem d_Ma_step_114 : decode b_Ma_step 114 = .ok (.invokevirtual 76, 3) := by decide +kernel
theorem d_Ma_step_117 : decode b_Ma_step 117 = .ok (.ireturn, 1) := by decide +kernel
theorem d_Ma_step_118 : decode b_Ma_step 118 = .ok (.aload_n 0, 1) := by decide +kernel
theorem d_Ma_step_119 : decode b_Ma_step 119 = .ok (.aload_n 1, 1) := by decide +kernel
theorem d_Ma_step_120 : decode b_Ma_step 120 = .ok (.iload 4, 2) := by decide +kernel
theorem d_Ma_step_122 : decode b_Ma_step 122 = .ok (.invokevirtual 83, 3) := by decide +kernel
theorem d_Ma_step_125 : decode b_Ma_step 125 = .ok (.ireturn, 1) := by decide +kernel
theorem d_Ma_step_126 : decode b_Ma_step 126 = .ok (.aload_n 0, 1) := by decide +kernel
theorem d_Ma_step_127 : decode b_Ma_step 127 = .ok (.iload 4, 2) := by decide +kernel
theorem d_Ma_step_129 : decode b_Ma_step 129 = .ok (.invokevirtual 87, 3) := by decide +kernel
theorem d_Ma_step_132 : decode b_Ma_step 132 = .ok (.ireturn, 1) := by decide +kernel
theorem d_Ma_step_133 : decode b_Ma_step 133 = .ok (.aload_n 0, 1) := by decide +kernel
theorem d_Ma_step_134 : decode b_Ma_step 134 = .ok (.aload_n 1, 1) := by decide +kernel
theorem d_Ma_step_135 : decode b_Ma_step 135 = .ok (.invokevirtual 90, 3) := by decide +kernel
theorem d_Ma_step_138 : decode b_Ma_step 138 = .ok (.ireturn, 1) := by decide +kernel
theorem d_Ma_step_139 : decode b_Ma_step 139 = .ok (.aload_n 0, 1) := by decide +kernel
theorem d_Ma_step_140 : decode b_Ma_step 140 = .ok (.aload_n 2, 1) := by decide +kernel
theorem d_Ma_step_141 : decode b_Ma_step 141 = .ok (.aload_n 0, 1) := by decide +kernel
theorem d_Ma_step_142 : decode b_Ma_step 142 = .ok (.getfield 93, 3) := by decide +kernel
theorem d_Ma_step_145 : decode b_Ma_step 145 = .ok (.invokevirtual 96, 3) := by decide +kernel
theorem d_Ma_step_148 : decode b_Ma_step 148 = .ok (.invokevirtual 99, 3) := by decide +kernel
theorem d_Ma_step_151 : decode b_Ma_step 151 = .ok (.ireturn, 1) := by decide +kernel
theorem d_Ma_step_152 : decode b_Ma_step 152 = .ok (.aload_n 0, 1) := by decide +kernel
theorem d_Ma_step_153 : decode b_Ma_step 153 = .ok (.invokevirtual 102, 3) := by decide +kernel
theorem d_Ma_step_156 : decode b_Ma_step 156 = .ok (.ireturn, 1) := by decide +kernel
theorem d_Ma_print_0 : decode b_Ma_print 0 = .ok (.aload_n 0, 1) := by decide +kernel
theorem d_Ma_print_1 : decode b_Ma_print 1 = .ok (.getfield 21, 3) := by decide +kernel
theorem d_Ma_print_4 : decode b_Ma_print 4 = .ok (.invokevirtual 105, 3) := by decide +kernel
theorem d_Ma_print_7 : decode b_Ma_print 7 = .ok (.ifCond .eq 5, 3) := by decide +kernel
theorem d_Ma_print_10 : decode b_Ma_print 10 = .ok (.iconst 5, 1) := by decide +kernel
theorem d_Ma_print_11 : decode b_Ma_print 11 = .ok (.ireturn, 1) := by decide +kernel
theorem d_Ma_print_12 : decode b_Ma_print 12 = .ok (.aload_n 0, 1) := by decide +kernel
theorem d_Ma_print_13 : decode b_Ma_print 13 = .ok (.getfield 21, 3) := by decide +kernel
theorem d_Ma_print_16 : decode b_Ma_print 16 = .ok (.iload_n 1, 1) := by decide +kernel
theorem d_Ma_print_17 : decode b_Ma_print 17 = .ok (.invokevirtual 109, 3) := by decide +kernel
theorem d_Ma_print_20 : decode b_Ma_print 20 = .ok (.iconst (-1), 1) := by decide +kernel
theorem d_Ma_print_21 : decode b_Ma_print 21 = .ok (.ireturn, 1) := by decide +kernel
theorem d_Ma_raise_0 : decode b_Ma_raise 0 = .ok (.aload_n 0, 1) := by decide +kernel
theorem d_Ma_raise_1 : decode b_Ma_raise 1 = .ok (.iload_n 1, 1) := by decide +kernel
theorem d_Ma_raise_2 : decode b_Ma_raise 2 = .ok (.invokevirtual 138, 3) := by decide +kernel
theorem d_Ma_raise_5 : decode b_Ma_raise 5 = .ok (.ifCond .ne 13, 3) := by decide +kernel
theorem d_Ma_raise_8 : decode b_Ma_raise 8 = .ok (.aload_n 0, 1) := by decide +kernel
theorem d_Ma_raise_9 : decode b_Ma_raise 9 = .ok (.getfield 21, 3) := by decide +kernel
theorem d_Ma_raise_12 : decode b_Ma_raise 12 = .ok (.iload_n 1, 1) := by decide +kernel
theorem d_Ma_raise_13 : decode b_Ma_raise 13 = .ok (.putfield 141, 3) := by decide +kernel
theorem d_Ma_raise_16 : decode b_Ma_raise 16 = .ok (.iconst 1, 1) := by decide +kernel
theorem d_Ma_raise_17 : decode b_Ma_raise 17 = .ok (.ireturn, 1) := by decide +kernel
theorem d_Ma_raise_18 : decode b_Ma_raise 18 = .ok (.aload_n 0, 1) := by decide +kernel
theorem d_Ma_raise_19 : decode b_Ma_raise 19 = .ok (.getfield 21, 3) := by decide +kernel
theorem d_Ma_raise_22 : decode b_Ma_raise 22 = .ok (.dup, 1) := by decide +kernel
theorem d_Ma_raise_23 : decode b_Ma_raise 23 = .ok (.getfield 144, 3) := by decide +kernel
theorem d_Ma_raise_26 : decode b_Ma_raise 26 = .ok (.iconst 1, 1) := by decide +kernel
theorem d_Ma_raise_27 : decode b_Ma_raise 27 = .ok (.iadd, 1) := by decide +kernel
theorem d_Ma_raise_28 : decode b_Ma_raise 28 = .ok (.putfield 144, 3) := by decide +kernel
theorem d_Ma_raise_31 : decode b_Ma_raise 31 = .ok (.aload_n 0, 1) := by decide +kernel
theorem d_Ma_raise_32 : decode b_Ma_raise 32 = .ok (.iload_n 1, 1) := by decide +kernel
theorem d_Ma_raise_33 : decode b_Ma_raise 33 = .ok (.putfield 147, 3) := by decide +kernel
theorem d_Ma_raise_36 : decode b_Ma_raise 36 = .ok (.aload_n 0, 1) := by decide +kernel
theorem d_Ma_raise_37 : decode b_Ma_raise 37 = .ok (.aload_n 0, 1) := by decide +kernel
theorem d_Ma_raise_38 : decode b_Ma_raise 38 = .ok (.aload_n 0, 1) := by decide +kernel
theorem d_Ma_raise_39 : decode b_Ma_raise 39 = .ok (.invokevirtual 53, 3) := by decide +kernel
theorem d_Ma_raise_42 : decode b_Ma_raise 42 = .ok (.invokevirtual 150, 3) := by decide +kernel
theorem d_Ma_raise_45 : decode b_Ma_raise 45 = .ok (.invokevirtual 99, 3) := by decide +kernel
theorem d_Ma_raise_48 : decode b_Ma_raise 48 = .ok (.ireturn, 1) := by decide +kernel
theorem d_Ma_findHandler_0 : decode b_Ma_findHandler 0 = .ok (.aload_n 0, 1) := by decide +kernel
theorem d_Ma_findHandler_1 : decode b_Ma_findHandler 1 = .ok (.getfield 42, 3) := by decide +kernel
theorem d_Ma_findHandler_4 : decode b_Ma_findHandler 4 = .ok (.istore_n 2, 1) := by decide +kernel
theorem d_Ma_findHandler_5 : decode b_Ma_findHandler 5 = .ok (.iload_n 2, 1) := by decide +kernel
theorem d_Ma_findHandler_6 : decode b_Ma_findHandler 6 = .ok (.ifCond .le 50, 3) := by decide +kernel
theorem d_Ma_findHandler_9 : decode b_Ma_findHandler 9 = .ok (.aload_n 0, 1) := by decide +kernel
theorem d_Ma_findHandler_10 : decode b_Ma_findHandler 10 = .ok (.getfield 34, 3) := by decide +kernel
theorem d_Ma_findHandler_13 : decode b_Ma_findHandler 13 = .ok (.iload_n 2, 1) := by decide +kernel
theorem d_Ma_findHandler_14 : decode b_Ma_findHandler 14 = .ok (.iconst 1, 1) := by decide +kernel
theorem d_Ma_findHandler_15 : decode b_Ma_findHandler 15 = .ok (.isub, 1) := by decide +kernel
theorem d_Ma_findHandler_16 : decode b_Ma_findHandler 16 = .ok (.aaload, 1) := by decide +kernel
theorem d_Ma_findHandler_17 : decode b_Ma_findHandler 17 = .ok (.astore_n 3, 1) := by decide +kernel
theorem d_Ma_findHandler_18 : decode b_Ma_findHandler 18 = .ok (.aload_n 0, 1) := by decide +kernel
theorem d_Ma_findHandler_19 : decode b_Ma_findHandler 19 = .ok (.aload_n 3, 1) := by decide +kernel
theorem d_Ma_findHandler_20 : decode b_Ma_findHandler 20 = .ok (.aload_n 0, 1) := by decide +kernel
theorem d_Ma_findHandler_21 : decode b_Ma_findHandler 21 = .ok (.aload_n 3, 1) := by decide +kernel
theorem d_Ma_findHandler_22 : decode b_Ma_findHandler 22 = .ok (.invokevirtual 150, 3) := by decide +kernel
theorem d_Ma_findHandler_25 : decode b_Ma_findHandler 25 = .ok (.iload_n 1, 1) := by decide +kernel
theorem d_Ma_findHandler_26 : decode b_Ma_findHandler 26 = .ok (.invokevirtual 159, 3) := by decide +kernel
theorem d_Ma_findHandler_29 : decode b_Ma_findHandler 29 = .ok (.istore 4, 2) := by decide +kernel
theorem d_Ma_findHandler_31 : decode b_Ma_findHandler 31 = .ok (.iload 4, 2) := by decide +kernel
theorem d_Ma_findHandler_33 : decode b_Ma_findHandler 33 = .ok (.iconst (-1), 1) := by decide +kernel
theorem d_Ma_findHandler_34 : decode b_Ma_findHandler 34 = .ok (.if_icmp .eq 16, 3) := by decide +kernel
theorem d_Ma_findHandler_37 : decode b_Ma_findHandler 37 = .ok (.aload_n 0, 1) := by decide +kernel
theorem d_Ma_findHandler_38 : decode b_Ma_findHandler 38 = .ok (.iload_n 2, 1) := by decide +kernel
theorem d_Ma_findHandler_39 : decode b_Ma_findHandler 39 = .ok (.putfield 163, 3) := by decide +kernel
theorem d_Ma_findHandler_42 : decode b_Ma_findHandler 42 = .ok (.aload_n 0, 1) := by decide +kernel
theorem d_Ma_findHandler_43 : decode b_Ma_findHandler 43 = .ok (.iload 4, 2) := by decide +kernel
theorem d_Ma_findHandler_45 : decode b_Ma_findHandler 45 = .ok (.putfield 166, 3) := by decide +kernel
theorem d_Ma_findHandler_48 : decode b_Ma_findHandler 48 = .ok (.iconst 1, 1) := by decide +kernel
theorem d_Ma_findHandler_49 : decode b_Ma_findHandler 49 = .ok (.ireturn, 1) := by decide +kernel
theorem d_Ma_findHandler_50 : decode b_Ma_findHandler 50 = .ok (.iinc 2 (-1), 3) := by decide +kernel
theorem d_Ma_findHandler_53 : decode b_Ma_findHandler 53 = .ok (.goto (-48), 3) := by decide +kernel
theorem d_Ma_findHandler_56 : decode b_Ma_findHandler 56 = .ok (.iconst 0, 1) := by decide +kernel
theorem d_Ma_findHandler_57 : decode b_Ma_findHandler 57 = .ok (.ireturn, 1) := by decide +kernel
theorem d_Ma_headOf_0 : decode b_Ma_headOf 0 = .ok (.aload_n 0, 1) := by decide +kernel
theorem d_Ma_headOf_1 : decode b_Ma_headOf 1 = .ok (.getfield 27, 3) := by decide +kernel
theorem d_Ma_headOf_4 : decode b_Ma_headOf 4 = .ok (.aload_n 1, 1) := by decide +kernel
theorem d_Ma_headOf_5 : decode b_Ma_headOf 5 = .ok (.getfield 61, 3) := by decide +kernel
theorem d_Ma_headOf_8 : decode b_Ma_headOf 8 = .ok (.aaload, 1) := by decide +kernel
theorem d_Ma_headOf_9 : decode b_Ma_headOf 9 = .ok (.aload_n 1, 1) := by decide +kernel
theorem d_Ma_headOf_10 : decode b_Ma_headOf 10 = .ok (.invokevirtual 153, 3) := by decide +kernel
theorem d_Ma_headOf_13 : decode b_Ma_headOf 13 = .ok (.invokevirtual 156, 3) := by decide +kernel
theorem d_Ma_headOf_16 : decode b_Ma_headOf 16 = .ok (.ireturn, 1) := by decide +kernel
theorem d_Ma_firstCatching_0 : decode b_Ma_firstCatching 0 = .ok (.aload_n 0, 1) := by decide +kernel
theorem d_Ma_firstCatching_1 : decode b_Ma_firstCatching 1 = .ok (.getfield 27, 3) := by decide +kernel
theorem d_Ma_firstCatching_4 : decode b_Ma_firstCatching 4 = .ok (.aload_n 1, 1) := by decide +kernel
theorem d_Ma_firstCatching_5 : decode b_Ma_firstCatching 5 = .ok (.getfield 61, 3) := by decide +kernel
theorem d_Ma_firstCatching_8 : decode b_Ma_firstCatching 8 = .ok (.aaload, 1) := by decide +kernel
theorem d_Ma_firstCatching_9 : decode b_Ma_firstCatching 9 = .ok (.astore 4, 2) := by decide +kernel
theorem d_Ma_firstCatching_11 : decode b_Ma_firstCatching 11 = .ok (.iload_n 2, 1) := by decide +kernel
theorem d_Ma_firstCatching_12 : decode b_Ma_firstCatching 12 = .ok (.istore 5, 2) := by decide +kernel
theorem d_Ma_firstCatching_14 : decode b_Ma_firstCatching 14 = .ok (.iconst 0, 1) := by decide +kernel
theorem d_Ma_firstCatching_15 : decode b_Ma_firstCatching 15 = .ok (.istore 6, 2) := by decide +kernel
theorem d_Ma_firstCatching_17 : decode b_Ma_firstCatching 17 = .ok (.iload 6, 2) := by decide +kernel
theorem d_Ma_firstCatching_19 : decode b_Ma_firstCatching 19 = .ok (.bipush 40, 2) := by decide +kernel
theorem d_Ma_firstCatching_21 : decode b_Ma_firstCatching 21 = .ok (.if_icmp .ge 59, 3) := by decide +kernel
theorem d_Ma_firstCatching_24 : decode b_Ma_firstCatching 24 = .ok (.aload 4, 2) := by decide +kernel
theorem d_Ma_firstCatching_26 : decode b_Ma_firstCatching 26 = .ok (.iload 5, 2) := by decide +kernel
theorem d_Ma_firstCatching_28 : decode b_Ma_firstCatching 28 = .ok (.invokevirtual 169, 3) := by decide +kernel
theorem d_Ma_firstCatching_31 : decode b_Ma_firstCatching 31 = .ok (.ifCond .eq 49, 3) := by decide +kernel
theorem d_Ma_firstCatching_34 : decode b_Ma_firstCatching 34 = .ok (.aload 4, 2) := by decide +kernel
theorem d_Ma_firstCatching_36 : decode b_Ma_firstCatching 36 = .ok (.iload 5, 2) := by decide +kernel
theorem d_Ma_firstCatching_38 : decode b_Ma_firstCatching 38 = .ok (.invokevirtual 172, 3) := by decide +kernel
theorem d_Ma_firstCatching_41 : decode b_Ma_firstCatching 41 = .ok (.istore 7, 2) := by decide +kernel
theorem d_Ma_firstCatching_43 : decode b_Ma_firstCatching 43 = .ok (.iload 7, 2) := by decide +kernel
theorem d_Ma_firstCatching_45 : decode b_Ma_firstCatching 45 = .ok (.iconst (-1), 1) := by decide +kernel
theorem d_Ma_firstCatching_46 : decode b_Ma_firstCatching 46 = .ok (.if_icmp .eq 16, 3) := by decide +kernel
theorem d_Ma_firstCatching_49 : decode b_Ma_firstCatching 49 = .ok (.aload_n 0, 1) := by decide +kernel
theorem d_Ma_firstCatching_50 : decode b_Ma_firstCatching 50 = .ok (.getfield 12, 3) := by decide +kernel
theorem d_Ma_firstCatching_53 : decode b_Ma_firstCatching 53 = .ok (.iload_n 3, 1) := by decide +kernel
theorem d_Ma_firstCatching_54 : decode b_Ma_firstCatching 54 = .ok (.iload 7, 2) := by decide +kernel
theorem d_Ma_firstCatching_56 : decode b_Ma_firstCatching 56 = .ok (.invokevirtual 175, 3) := by decide +kernel
theorem d_Ma_firstCatching_59 : decode b_Ma_firstCatching 59 = .ok (.ifCond .eq 6, 3) := by decide +kernel
theorem d_Ma_firstCatching_62 : decode b_Ma_firstCatching 62 = .ok (.iload 5, 2) := by decide +kernel
theorem d_Ma_firstCatching_64 : decode b_Ma_firstCatching 64 = .ok (.ireturn, 1) := by decide +kernel
theorem d_Ma_firstCatching_65 : decode b_Ma_firstCatching 65 = .ok (.aload 4, 2) := by decide +kernel
theorem d_Ma_firstCatching_67 : decode b_Ma_firstCatching 67 = .ok (.iload 5, 2) := by decide +kernel
theorem d_Ma_firstCatching_69 : decode b_Ma_firstCatching 69 = .ok (.invokevirtual 96, 3) := by decide +kernel
theorem d_Ma_firstCatching_72 : decode b_Ma_firstCatching 72 = .ok (.istore 5, 2) := by decide +kernel
theorem d_Ma_firstCatching_74 : decode b_Ma_firstCatching 74 = .ok (.iinc 6 1, 3) := by decide +kernel
theorem d_Ma_firstCatching_77 : decode b_Ma_firstCatching 77 = .ok (.goto (-60), 3) := by decide +kernel
theorem d_Ma_firstCatching_80 : decode b_Ma_firstCatching 80 = .ok (.iconst (-1), 1) := by decide +kernel
theorem d_Ma_firstCatching_81 : decode b_Ma_firstCatching 81 = .ok (.ireturn, 1) := by decide +kernel
theorem d_Ma_unwind_0 : decode b_Ma_unwind 0 = .ok (.aload_n 0, 1) := by decide +kernel
theorem d_Ma_unwind_1 : decode b_Ma_unwind 1 = .ok (.iload_n 1, 1) := by decide +kernel
theorem d_Ma_unwind_2 : decode b_Ma_unwind 2 = .ok (.invokevirtual 179, 3) := by decide +kernel
theorem d_Ma_unwind_5 : decode b_Ma_unwind 5 = .ok (.istore_n 2, 1) := by decide +kernel
theorem d_Ma_unwind_6 : decode b_Ma_unwind 6 = .ok (.iload_n 2, 1) := by decide +kernel
theorem d_Ma_unwind_7 : decode b_Ma_unwind 7 = .ok (.iconst (-1), 1) := by decide +kernel
theorem d_Ma_unwind_8 : decode b_Ma_unwind 8 = .ok (.if_icmp .ne 37, 3) := by decide +kernel
theorem d_Ma_unwind_11 : decode b_Ma_unwind 11 = .ok (.aload_n 0, 1) := by decide +kernel
theorem d_Ma_unwind_12 : decode b_Ma_unwind 12 = .ok (.getfield 42, 3) := by decide +kernel
theorem d_Ma_unwind_15 : decode b_Ma_unwind 15 = .ok (.iconst 1, 1) := by decide +kernel
theorem d_Ma_unwind_16 : decode b_Ma_unwind 16 = .ok (.if_icmp .le 29, 3) := by decide +kernel
theorem d_Ma_unwind_19 : decode b_Ma_unwind 19 = .ok (.aload_n 0, 1) := by decide +kernel
theorem d_Ma_unwind_20 : decode b_Ma_unwind 20 = .ok (.dup, 1) := by decide +kernel
theorem d_Ma_unwind_21 : decode b_Ma_unwind 21 = .ok (.getfield 42, 3) := by decide +kernel
theorem d_Ma_unwind_24 : decode b_Ma_unwind 24 = .ok (.iconst 1, 1) := by decide +kernel
theorem d_Ma_unwind_25 : decode b_Ma_unwind 25 = .ok (.isub, 1) := by decide +kernel
theorem d_Ma_unwind_26 : decode b_Ma_unwind 26 = .ok (.putfield 42, 3) := by decide +kernel
theorem d_Ma_unwind_29 : decode b_Ma_unwind 29 = .ok (.aload_n 0, 1) := by decide +kernel
theorem d_Ma_unwind_30 : decode b_Ma_unwind 30 = .ok (.aload_n 0, 1) := by decide +kernel
theorem d_Ma_unwind_31 : decode b_Ma_unwind 31 = .ok (.aload_n 0, 1) := by decide +kernel
theorem d_Ma_unwind_32 : decode b_Ma_unwind 32 = .ok (.invokevirtual 53, 3) := by decide +kernel
theorem d_Ma_unwind_35 : decode b_Ma_unwind 35 = .ok (.invokevirtual 150, 3) := by decide +kernel
theorem d_Ma_unwind_38 : decode b_Ma_unwind 38 = .ok (.invokevirtual 179, 3) := by decide +kernel
theorem d_Ma_unwind_41 : decode b_Ma_unwind 41 = .ok (.istore_n 2, 1) := by decide +kernel
theorem d_Ma_unwind_42 : decode b_Ma_unwind 42 = .ok (.goto (-36), 3) := by decide +kernel
theorem d_Ma_unwind_45 : decode b_Ma_unwind 45 = .ok (.aload_n 0, 1) := by decide +kernel
theorem d_Ma_unwind_46 : decode b_Ma_unwind 46 = .ok (.iload_n 2, 1) := by decide +kernel
theorem d_Ma_unwind_47 : decode b_Ma_unwind 47 = .ok (.invokevirtual 182, 3) := by decide +kernel
theorem d_Ma_unwind_50 : decode b_Ma_unwind 50 = .ok (.ireturn, 1) := by decide +kernel
theorem d_Ma_firstLanding_0 : decode b_Ma_firstLanding 0 = .ok (.aload_n 0, 1) := by decide +kernel
theorem d_Ma_firstLanding_1 : decode b_Ma_firstLanding 1 = .ok (.getfield 27, 3) := by decide +kernel
theorem d_Ma_firstLanding_4 : decode b_Ma_firstLanding 4 = .ok (.aload_n 0, 1) := by decide +kernel
theorem d_Ma_firstLanding_5 : decode b_Ma_firstLanding 5 = .ok (.invokevirtual 53, 3) := by decide +kernel
theorem d_Ma_firstLanding_8 : decode b_Ma_firstLanding 8 = .ok (.getfield 61, 3) := by decide +kernel
theorem d_Ma_firstLanding_11 : decode b_Ma_firstLanding 11 = .ok (.aaload, 1) := by decide +kernel
theorem d_Ma_firstLanding_12 : decode b_Ma_firstLanding 12 = .ok (.astore_n 2, 1) := by decide +kernel
theorem d_Ma_firstLanding_13 : decode b_Ma_firstLanding 13 = .ok (.iload_n 1, 1) := by decide +kernel
theorem d_Ma_firstLanding_14 : decode b_Ma_firstLanding 14 = .ok (.istore_n 3, 1) := by decide +kernel
theorem d_Ma_firstLanding_15 : decode b_Ma_firstLanding 15 = .ok (.iconst 0, 1) := by decide +kernel
theorem d_Ma_firstLanding_16 : decode b_Ma_firstLanding 16 = .ok (.istore 4, 2) := by decide +kernel
theorem d_Ma_firstLanding_18 : decode b_Ma_firstLanding 18 = .ok (.iload 4, 2) := by decide +kernel
theorem d_Ma_firstLanding_20 : decode b_Ma_firstLanding 20 = .ok (.bipush 40, 2) := by decide +kernel
theorem d_Ma_firstLanding_22 : decode b_Ma_firstLanding 22 = .ok (.if_icmp .ge 43, 3) := by decide +kernel
theorem d_Ma_firstLanding_25 : decode b_Ma_firstLanding 25 = .ok (.aload_n 2, 1) := by decide +kernel
theorem d_Ma_firstLanding_26 : decode b_Ma_firstLanding 26 = .ok (.iload_n 3, 1) := by decide +kernel
theorem d_Ma_firstLanding_27 : decode b_Ma_firstLanding 27 = .ok (.invokevirtual 169, 3) := by decide +kernel
theorem d_Ma_firstLanding_30 : decode b_Ma_firstLanding 30 = .ok (.ifCond .eq 35, 3) := by decide +kernel
theorem d_Ma_firstLanding_33 : decode b_Ma_firstLanding 33 = .ok (.aload_n 2, 1) := by decide +kernel
theorem d_Ma_firstLanding_34 : decode b_Ma_firstLanding 34 = .ok (.iload_n 3, 1) := by decide +kernel
theorem d_Ma_firstLanding_35 : decode b_Ma_firstLanding 35 = .ok (.invokevirtual 172, 3) := by decide +kernel
theorem d_Ma_firstLanding_38 : decode b_Ma_firstLanding 38 = .ok (.bipush (-2), 2) := by decide +kernel
theorem d_Ma_firstLanding_40 : decode b_Ma_firstLanding 40 = .ok (.if_icmp .eq 11, 3) := by decide +kernel
theorem d_Ma_firstLanding_43 : decode b_Ma_firstLanding 43 = .ok (.aload_n 0, 1) := by decide +kernel
theorem d_Ma_firstLanding_44 : decode b_Ma_firstLanding 44 = .ok (.iload_n 3, 1) := by decide +kernel
theorem d_Ma_firstLanding_45 : decode b_Ma_firstLanding 45 = .ok (.invokevirtual 185, 3) := by decide +kernel
theorem d_Ma_firstLanding_48 : decode b_Ma_firstLanding 48 = .ok (.ifCond .eq 5, 3) := by decide +kernel
theorem d_Ma_firstLanding_51 : decode b_Ma_firstLanding 51 = .ok (.iload_n 3, 1) := by decide +kernel
theorem d_Ma_firstLanding_52 : decode b_Ma_firstLanding 52 = .ok (.ireturn, 1) := by decide +kernel
theorem d_Ma_firstLanding_53 : decode b_Ma_firstLanding 53 = .ok (.aload_n 2, 1) := by decide +kernel
theorem d_Ma_firstLanding_54 : decode b_Ma_firstLanding 54 = .ok (.iload_n 3, 1) := by decide +kernel
theorem d_Ma_firstLanding_55 : decode b_Ma_firstLanding 55 = .ok (.invokevirtual 96, 3) := by decide +kernel
theorem d_Ma_firstLanding_58 : decode b_Ma_firstLanding 58 = .ok (.istore_n 3, 1) := by decide +kernel
theorem d_Ma_firstLanding_59 : decode b_Ma_firstLanding 59 = .ok (.iinc 4 1, 3) := by decide +kernel
theorem d_Ma_firstLanding_62 : decode b_Ma_firstLanding 62 = .ok (.goto (-44), 3) := by decide +kernel
theorem d_Ma_firstLanding_65 : decode b_Ma_firstLanding 65 = .ok (.iconst (-1), 1) := by decide +kernel
theorem d_Ma_firstLanding_66 : decode b_Ma_firstLanding 66 = .ok (.ireturn, 1) := by decide +kernel
theorem d_Ma_isHandler_0 : decode b_Ma_isHandler 0 = .ok (.aload_n 0, 1) := by decide +kernel
theorem d_Ma_isHandler_1 : decode b_Ma_isHandler 1 = .ok (.getfield 42, 3) := by decide +kernel
theorem d_Ma_isHandler_4 : decode b_Ma_isHandler 4 = .ok (.aload_n 0, 1) := by decide +kernel
theorem d_Ma_isHandler_5 : decode b_Ma_isHandler 5 = .ok (.getfield 163, 3) := by decide +kernel
theorem d_Ma_isHandler_8 : decode b_Ma_isHandler 8 = .ok (.if_icmp .ne 15, 3) := by decide +kernel
theorem d_Ma_isHandler_11 : decode b_Ma_isHandler 11 = .ok (.iload_n 1, 1) := by decide +kernel
theorem d_Ma_isHandler_12 : decode b_Ma_isHandler 12 = .ok (.aload_n 0, 1) := by decide +kernel
theorem d_Ma_isHandler_13 : decode b_Ma_isHandler 13 = .ok (.getfield 166, 3) := by decide +kernel
theorem d_Ma_isHandler_16 : decode b_Ma_isHandler 16 = .ok (.if_icmp .ne 7, 3) := by decide +kernel
theorem d_Ma_isHandler_19 : decode b_Ma_isHandler 19 = .ok (.iconst 1, 1) := by decide +kernel
theorem d_Ma_isHandler_20 : decode b_Ma_isHandler 20 = .ok (.goto 4, 3) := by decide +kernel
theorem d_Ma_isHandler_23 : decode b_Ma_isHandler 23 = .ok (.iconst 0, 1) := by decide +kernel
theorem d_Ma_isHandler_24 : decode b_Ma_isHandler 24 = .ok (.ireturn, 1) := by decide +kernel
theorem d_Ma_land_0 : decode b_Ma_land 0 = .ok (.aload_n 0, 1) := by decide +kernel
theorem d_Ma_land_1 : decode b_Ma_land 1 = .ok (.invokevirtual 53, 3) := by decide +kernel
theorem d_Ma_land_4 : decode b_Ma_land 4 = .ok (.astore_n 2, 1) := by decide +kernel
theorem d_Ma_land_5 : decode b_Ma_land 5 = .ok (.aload_n 0, 1) := by decide +kernel
theorem d_Ma_land_6 : decode b_Ma_land 6 = .ok (.iload_n 1, 1) := by decide +kernel
theorem d_Ma_land_7 : decode b_Ma_land 7 = .ok (.invokevirtual 185, 3) := by decide +kernel
theorem d_Ma_land_10 : decode b_Ma_land 10 = .ok (.ifCond .eq 14, 3) := by decide +kernel
theorem d_Ma_land_13 : decode b_Ma_land 13 = .ok (.aload_n 2, 1) := by decide +kernel
theorem d_Ma_land_14 : decode b_Ma_land 14 = .ok (.aload_n 0, 1) := by decide +kernel
theorem d_Ma_land_15 : decode b_Ma_land 15 = .ok (.getfield 147, 3) := by decide +kernel
theorem d_Ma_land_18 : decode b_Ma_land 18 = .ok (.invokevirtual 188, 3) := by decide +kernel
theorem d_Ma_land_21 : decode b_Ma_land 21 = .ok (.goto 8, 3) := by decide +kernel
theorem d_Ma_land_24 : decode b_Ma_land 24 = .ok (.aload_n 0, 1) := by decide +kernel
theorem d_Ma_land_25 : decode b_Ma_land 25 = .ok (.iload_n 1, 1) := by decide +kernel
theorem d_Ma_land_26 : decode b_Ma_land 26 = .ok (.putfield 93, 3) := by decide +kernel
theorem d_Ma_land_29 : decode b_Ma_land 29 = .ok (.aload_n 0, 1) := by decide +kernel
theorem d_Ma_land_30 : decode b_Ma_land 30 = .ok (.aload_n 2, 1) := by decide +kernel
theorem d_Ma_land_31 : decode b_Ma_land 31 = .ok (.aload_n 0, 1) := by decide +kernel
theorem d_Ma_land_32 : decode b_Ma_land 32 = .ok (.getfield 27, 3) := by decide +kernel
theorem d_Ma_land_35 : decode b_Ma_land 35 = .ok (.aload_n 2, 1) := by decide +kernel
theorem d_Ma_land_36 : decode b_Ma_land 36 = .ok (.getfield 61, 3) := by decide +kernel
theorem d_Ma_land_39 : decode b_Ma_land 39 = .ok (.aaload, 1) := by decide +kernel
theorem d_Ma_land_40 : decode b_Ma_land 40 = .ok (.iload_n 1, 1) := by decide +kernel
theorem d_Ma_land_41 : decode b_Ma_land 41 = .ok (.invokevirtual 191, 3) := by decide +kernel
theorem d_Ma_land_44 : decode b_Ma_land 44 = .ok (.invokevirtual 83, 3) := by decide +kernel
theorem d_Ma_land_47 : decode b_Ma_land 47 = .ok (.ireturn, 1) := by decide +kernel
theorem d_Ma_jump_0 : decode b_Ma_jump 0 = .ok (.aload_n 1, 1) := by decide +kernel
theorem d_Ma_jump_1 : decode b_Ma_jump 1 = .ok (.iload_n 2, 1) := by decide +kernel
theorem d_Ma_jump_2 : decode b_Ma_jump 2 = .ok (.putfield 64, 3) := by decide +kernel
theorem d_Ma_jump_5 : decode b_Ma_jump 5 = .ok (.iconst (-1), 1) := by decide +kernel
theorem d_Ma_jump_6 : decode b_Ma_jump 6 = .ok (.ireturn, 1) := by decide +kernel
theorem d_Ma_clean_0 : decode b_Ma_clean 0 = .ok (.aload_n 0, 1) := by decide +kernel
theorem d_Ma_clean_1 : decode b_Ma_clean 1 = .ok (.bipush 100, 2) := by decide +kernel
theorem d_Ma_clean_3 : decode b_Ma_clean 3 = .ok (.iload_n 1, 1) := by decide +kernel
theorem d_Ma_clean_4 : decode b_Ma_clean 4 = .ok (.iadd, 1) := by decide +kernel
theorem d_Ma_clean_5 : decode b_Ma_clean 5 = .ok (.invokevirtual 73, 3) := by decide +kernel
theorem d_Ma_clean_8 : decode b_Ma_clean 8 = .ok (.istore_n 2, 1) := by decide +kernel
theorem d_Ma_clean_9 : decode b_Ma_clean 9 = .ok (.iload_n 2, 1) := by decide +kernel
theorem d_Ma_clean_10 : decode b_Ma_clean 10 = .ok (.iconst (-1), 1) := by decide +kernel
theorem d_Ma_clean_11 : decode b_Ma_clean 11 = .ok (.if_icmp .ne 16, 3) := by decide +kernel
theorem d_Ma_clean_14 : decode b_Ma_clean 14 = .ok (.aload_n 0, 1) := by decide +kernel
theorem d_Ma_clean_15 : decode b_Ma_clean 15 = .ok (.getfield 21, 3) := by decide +kernel
theorem d_Ma_clean_18 : decode b_Ma_clean 18 = .ok (.dup, 1) := by decide +kernel
theorem d_Ma_clean_19 : decode b_Ma_clean 19 = .ok (.getfield 113, 3) := by decide +kernel
theorem d_Ma_clean_22 : decode b_Ma_clean 22 = .ok (.iconst 1, 1) := by decide +kernel
theorem d_Ma_clean_23 : decode b_Ma_clean 23 = .ok (.iadd, 1) := by decide +kernel
theorem d_Ma_clean_24 : decode b_Ma_clean 24 = .ok (.putfield 113, 3) := by decide +kernel
theorem d_Ma_clean_27 : decode b_Ma_clean 27 = .ok (.iload_n 2, 1) := by decide +kernel
theorem d_Ma_clean_28 : decode b_Ma_clean 28 = .ok (.ireturn, 1) := by decide +kernel
theorem d_Ma_endCatch_0 : decode b_Ma_endCatch 0 = .ok (.aload_n 1, 1) := by decide +kernel
theorem d_Ma_endCatch_1 : decode b_Ma_endCatch 1 = .ok (.invokevirtual 116, 3) := by decide +kernel
theorem d_Ma_endCatch_4 : decode b_Ma_endCatch 4 = .ok (.iconst (-1), 1) := by decide +kernel
theorem d_Ma_endCatch_5 : decode b_Ma_endCatch 5 = .ok (.ireturn, 1) := by decide +kernel
theorem d_Ma_leave_0 : decode b_Ma_leave 0 = .ok (.aload_n 0, 1) := by decide +kernel
theorem d_Ma_leave_1 : decode b_Ma_leave 1 = .ok (.getfield 42, 3) := by decide +kernel
theorem d_Ma_leave_4 : decode b_Ma_leave 4 = .ok (.ifCond .le 13, 3) := by decide +kernel
theorem d_Ma_leave_7 : decode b_Ma_leave 7 = .ok (.aload_n 0, 1) := by decide +kernel
theorem d_Ma_leave_8 : decode b_Ma_leave 8 = .ok (.dup, 1) := by decide +kernel
theorem d_Ma_leave_9 : decode b_Ma_leave 9 = .ok (.getfield 42, 3) := by decide +kernel
theorem d_Ma_leave_12 : decode b_Ma_leave 12 = .ok (.iconst 1, 1) := by decide +kernel
theorem d_Ma_leave_13 : decode b_Ma_leave 13 = .ok (.isub, 1) := by decide +kernel
theorem d_Ma_leave_14 : decode b_Ma_leave 14 = .ok (.putfield 42, 3) := by decide +kernel
theorem d_Ma_leave_17 : decode b_Ma_leave 17 = .ok (.aload_n 0, 1) := by decide +kernel
theorem d_Ma_leave_18 : decode b_Ma_leave 18 = .ok (.getfield 42, 3) := by decide +kernel
theorem d_Ma_leave_21 : decode b_Ma_leave 21 = .ok (.ifCond .le 7, 3) := by decide +kernel
theorem d_Ma_leave_24 : decode b_Ma_leave 24 = .ok (.iconst (-1), 1) := by decide +kernel
theorem d_Ma_leave_25 : decode b_Ma_leave 25 = .ok (.goto 4, 3) := by decide +kernel
theorem d_Ma_leave_28 : decode b_Ma_leave 28 = .ok (.iconst 0, 1) := by decide +kernel
theorem d_Ma_leave_29 : decode b_Ma_leave 29 = .ok (.ireturn, 1) := by decide +kernel
theorem d_Pr_init_0 : decode b_Pr_init 0 = .ok (.aload_n 0, 1) := by decide +kernel
theorem d_Pr_init_1 : decode b_Pr_init 1 = .ok (.invokespecial 3, 3) := by decide +kernel
theorem d_Pr_init_4 : decode b_Pr_init 4 = .ok (.aload_n 0, 1) := by decide +kernel
theorem d_Pr_init_5 : decode b_Pr_init 5 = .ok (.bipush 81, 2) := by decide +kernel
theorem d_Pr_init_7 : decode b_Pr_init 7 = .ok (.newarray .int, 2) := by decide +kernel
theorem d_Pr_init_9 : decode b_Pr_init 9 = .ok (.putfield 9, 3) := by decide +kernel
theorem d_Pr_init_12 : decode b_Pr_init 12 = .ok (.aload_n 0, 1) := by decide +kernel
theorem d_Pr_init_13 : decode b_Pr_init 13 = .ok (.bipush 81, 2) := by decide +kernel
theorem d_Pr_init_15 : decode b_Pr_init 15 = .ok (.newarray .int, 2) := by decide +kernel
theorem d_Pr_init_17 : decode b_Pr_init 17 = .ok (.putfield 15, 3) := by decide +kernel
theorem d_Pr_init_20 : decode b_Pr_init 20 = .ok (.aload_n 0, 1) := by decide +kernel
theorem d_Pr_init_21 : decode b_Pr_init 21 = .ok (.bipush 40, 2) := by decide +kernel
theorem d_Pr_init_23 : decode b_Pr_init 23 = .ok (.newarray .int, 2) := by decide +kernel
theorem d_Pr_init_25 : decode b_Pr_init 25 = .ok (.putfield 18, 3) := by decide +kernel
theorem d_Pr_init_28 : decode b_Pr_init 28 = .ok (.aload_n 0, 1) := by decide +kernel
theorem d_Pr_init_29 : decode b_Pr_init 29 = .ok (.bipush 40, 2) := by decide +kernel
theorem d_Pr_init_31 : decode b_Pr_init 31 = .ok (.newarray .int, 2) := by decide +kernel
theorem d_Pr_init_33 : decode b_Pr_init 33 = .ok (.putfield 21, 3) := by decide +kernel
theorem d_Pr_init_36 : decode b_Pr_init 36 = .ok (.aload_n 0, 1) := by decide +kernel
theorem d_Pr_init_37 : decode b_Pr_init 37 = .ok (.bipush 40, 2) := by decide +kernel
theorem d_Pr_init_39 : decode b_Pr_init 39 = .ok (.newarray .int, 2) := by decide +kernel
theorem d_Pr_init_41 : decode b_Pr_init 41 = .ok (.putfield 24, 3) := by decide +kernel
theorem d_Pr_init_44 : decode b_Pr_init 44 = .ok (.aload_n 0, 1) := by decide +kernel
theorem d_Pr_init_45 : decode b_Pr_init 45 = .ok (.bipush 20, 2) := by decide +kernel
