theorem d_Lp_init_0 : decode b_Lp_init 0 = .ok (.aload_n 0, 1) := by decide +kernel
theorem d_Lp_init_1 : decode b_Lp_init 1 = .ok (.invokespecial 3, 3) := by decide +kernel
theorem d_Lp_init_4 : decode b_Lp_init 4 = .ok (.aload_n 0, 1) := by decide +kernel
theorem d_Lp_init_5 : decode b_Lp_init 5 = .ok (.bipush 6, 2) := by decide +kernel
theorem d_Lp_init_7 : decode b_Lp_init 7 = .ok (.anewarray 9, 3) := by decide +kernel
theorem d_Lp_init_10 : decode b_Lp_init 10 = .ok (.putfield 11, 3) := by decide +kernel
theorem d_Lp_init_13 : decode b_Lp_init 13 = .ok (.iconst 0, 1) := by decide +kernel
theorem d_Lp_init_14 : decode b_Lp_init 14 = .ok (.istore_n 1, 1) := by decide +kernel
theorem d_Lp_init_15 : decode b_Lp_init 15 = .ok (.iload_n 1, 1) := by decide +kernel
theorem d_Lp_init_16 : decode b_Lp_init 16 = .ok (.bipush 6, 2) := by decide +kernel
theorem d_Lp_init_18 : decode b_Lp_init 18 = .ok (.if_icmp .ge 22, 3) := by decide +kernel
theorem d_Lp_init_21 : decode b_Lp_init 21 = .ok (.aload_n 0, 1) := by decide +kernel
theorem d_Lp_init_22 : decode b_Lp_init 22 = .ok (.getfield 11, 3) := by decide +kernel
theorem d_Lp_init_25 : decode b_Lp_init 25 = .ok (.iload_n 1, 1) := by decide +kernel
theorem d_Lp_init_26 : decode b_Lp_init 26 = .ok (.new 9, 3) := by decide +kernel
theorem d_Lp_init_29 : decode b_Lp_init 29 = .ok (.dup, 1) := by decide +kernel
theorem d_Lp_init_30 : decode b_Lp_init 30 = .ok (.invokespecial 15, 3) := by decide +kernel
theorem d_Lp_init_33 : decode b_Lp_init 33 = .ok (.aastore, 1) := by decide +kernel
theorem d_Lp_init_34 : decode b_Lp_init 34 = .ok (.iinc 1 1, 3) := by decide +kernel
theorem d_Lp_init_37 : decode b_Lp_init 37 = .ok (.goto (-22), 3) := by decide +kernel
theorem d_Lp_init_40 : decode b_Lp_init 40 = .ok (.aload_n 0, 1) := by decide +kernel
theorem d_Lp_init_41 : decode b_Lp_init 41 = .ok (.new 16, 3) := by decide +kernel
theorem d_Lp_init_44 : decode b_Lp_init 44 = .ok (.dup, 1) := by decide +kernel
theorem d_Lp_init_45 : decode b_Lp_init 45 = .ok (.invokespecial 18, 3) := by decide +kernel
theorem d_Lp_init_48 : decode b_Lp_init 48 = .ok (.putfield 19, 3) := by decide +kernel
theorem d_Lp_init_51 : decode b_Lp_init 51 = .ok (.aload_n 0, 1) := by decide +kernel
theorem d_Lp_init_52 : decode b_Lp_init 52 = .ok (.new 23, 3) := by decide +kernel
theorem d_Lp_init_55 : decode b_Lp_init 55 = .ok (.dup, 1) := by decide +kernel
theorem d_Lp_init_56 : decode b_Lp_init 56 = .ok (.invokespecial 25, 3) := by decide +kernel
theorem d_Lp_init_59 : decode b_Lp_init 59 = .ok (.putfield 26, 3) := by decide +kernel
theorem d_Lp_init_62 : decode b_Lp_init 62 = .ok (.aload_n 0, 1) := by decide +kernel
theorem d_Lp_init_63 : decode b_Lp_init 63 = .ok (.new 30, 3) := by decide +kernel
theorem d_Lp_init_66 : decode b_Lp_init 66 = .ok (.dup, 1) := by decide +kernel
theorem d_Lp_init_67 : decode b_Lp_init 67 = .ok (.invokespecial 32, 3) := by decide +kernel
theorem d_Lp_init_70 : decode b_Lp_init 70 = .ok (.putfield 33, 3) := by decide +kernel
theorem d_Lp_init_73 : decode b_Lp_init 73 = .ok (.return_, 1) := by decide +kernel
theorem d_Lp_type_0 : decode b_Lp_type 0 = .ok (.iload_n 1, 1) := by decide +kernel
theorem d_Lp_type_1 : decode b_Lp_type 1 = .ok (.iconst (-1), 1) := by decide +kernel
theorem d_Lp_type_2 : decode b_Lp_type 2 = .ok (.if_icmp .eq 27, 3) := by decide +kernel
theorem d_Lp_type_5 : decode b_Lp_type 5 = .ok (.aload_n 0, 1) := by decide +kernel
theorem d_Lp_type_6 : decode b_Lp_type 6 = .ok (.getfield 33, 3) := by decide +kernel
theorem d_Lp_type_9 : decode b_Lp_type 9 = .ok (.getfield 37, 3) := by decide +kernel
theorem d_Lp_type_12 : decode b_Lp_type 12 = .ok (.iload_n 1, 1) := by decide +kernel
theorem d_Lp_type_13 : decode b_Lp_type 13 = .ok (.invokevirtual 41, 3) := by decide +kernel
theorem d_Lp_type_16 : decode b_Lp_type 16 = .ok (.ifCond .ne 13, 3) := by decide +kernel
theorem d_Lp_type_19 : decode b_Lp_type 19 = .ok (.new 47, 3) := by decide +kernel
theorem d_Lp_type_22 : decode b_Lp_type 22 = .ok (.dup, 1) := by decide +kernel
theorem d_Lp_type_23 : decode b_Lp_type 23 = .ok (.ldc 49, 2) := by decide +kernel
theorem d_Lp_type_25 : decode b_Lp_type 25 = .ok (.invokespecial 51, 3) := by decide +kernel
theorem d_Lp_type_28 : decode b_Lp_type 28 = .ok (.athrow, 1) := by decide +kernel
theorem d_Lp_type_29 : decode b_Lp_type 29 = .ok (.aload_n 0, 1) := by decide +kernel
theorem d_Lp_type_30 : decode b_Lp_type 30 = .ok (.getfield 33, 3) := by decide +kernel
theorem d_Lp_type_33 : decode b_Lp_type 33 = .ok (.getfield 37, 3) := by decide +kernel
theorem d_Lp_type_36 : decode b_Lp_type 36 = .ok (.invokevirtual 54, 3) := by decide +kernel
theorem d_Lp_type_39 : decode b_Lp_type 39 = .ok (.ifCond .eq 13, 3) := by decide +kernel
theorem d_Lp_type_42 : decode b_Lp_type 42 = .ok (.new 58, 3) := by decide +kernel
theorem d_Lp_type_45 : decode b_Lp_type 45 = .ok (.dup, 1) := by decide +kernel
theorem d_Lp_type_46 : decode b_Lp_type 46 = .ok (.ldc 60, 2) := by decide +kernel
theorem d_Lp_type_48 : decode b_Lp_type 48 = .ok (.invokespecial 62, 3) := by decide +kernel
theorem d_Lp_type_51 : decode b_Lp_type 51 = .ok (.athrow, 1) := by decide +kernel
theorem d_Lp_type_52 : decode b_Lp_type 52 = .ok (.aload_n 0, 1) := by decide +kernel
theorem d_Lp_type_53 : decode b_Lp_type 53 = .ok (.getfield 33, 3) := by decide +kernel
theorem d_Lp_type_56 : decode b_Lp_type 56 = .ok (.getfield 37, 3) := by decide +kernel
theorem d_Lp_type_59 : decode b_Lp_type 59 = .ok (.iload_n 1, 1) := by decide +kernel
theorem d_Lp_type_60 : decode b_Lp_type 60 = .ok (.invokevirtual 63, 3) := by decide +kernel
theorem d_Lp_type_63 : decode b_Lp_type 63 = .ok (.ireturn, 1) := by decide +kernel
theorem d_Lp_add_0 : decode b_Lp_add 0 = .ok (.iload_n 1, 1) := by decide +kernel
theorem d_Lp_add_1 : decode b_Lp_add 1 = .ok (.invokestatic 67, 3) := by decide +kernel
theorem d_Lp_add_4 : decode b_Lp_add 4 = .ok (.aload_n 0, 1) := by decide +kernel
theorem d_Lp_add_5 : decode b_Lp_add 5 = .ok (.iload_n 2, 1) := by decide +kernel
theorem d_Lp_add_6 : decode b_Lp_add 6 = .ok (.iload_n 3, 1) := by decide +kernel
theorem d_Lp_add_7 : decode b_Lp_add 7 = .ok (.invokevirtual 71, 3) := by decide +kernel
theorem d_Lp_add_10 : decode b_Lp_add 10 = .ok (.ifCond .ne 13, 3) := by decide +kernel
theorem d_Lp_add_13 : decode b_Lp_add 13 = .ok (.new 47, 3) := by decide +kernel
theorem d_Lp_add_16 : decode b_Lp_add 16 = .ok (.dup, 1) := by decide +kernel
theorem d_Lp_add_17 : decode b_Lp_add 17 = .ok (.ldc 75, 2) := by decide +kernel
theorem d_Lp_add_19 : decode b_Lp_add 19 = .ok (.invokespecial 51, 3) := by decide +kernel
theorem d_Lp_add_22 : decode b_Lp_add 22 = .ok (.athrow, 1) := by decide +kernel
theorem d_Lp_add_23 : decode b_Lp_add 23 = .ok (.aload_n 0, 1) := by decide +kernel
theorem d_Lp_add_24 : decode b_Lp_add 24 = .ok (.getfield 11, 3) := by decide +kernel
theorem d_Lp_add_27 : decode b_Lp_add 27 = .ok (.iload_n 1, 1) := by decide +kernel
theorem d_Lp_add_28 : decode b_Lp_add 28 = .ok (.aaload, 1) := by decide +kernel
theorem d_Lp_add_29 : decode b_Lp_add 29 = .ok (.invokevirtual 77, 3) := by decide +kernel
theorem d_Lp_add_32 : decode b_Lp_add 32 = .ok (.ifCond .eq 13, 3) := by decide +kernel
theorem d_Lp_add_35 : decode b_Lp_add 35 = .ok (.new 58, 3) := by decide +kernel
theorem d_Lp_add_38 : decode b_Lp_add 38 = .ok (.dup, 1) := by decide +kernel
theorem d_Lp_add_39 : decode b_Lp_add 39 = .ok (.ldc 78, 2) := by decide +kernel
theorem d_Lp_add_41 : decode b_Lp_add 41 = .ok (.invokespecial 62, 3) := by decide +kernel
theorem d_Lp_add_44 : decode b_Lp_add 44 = .ok (.athrow, 1) := by decide +kernel
theorem d_Lp_add_45 : decode b_Lp_add 45 = .ok (.aload_n 0, 1) := by decide +kernel
theorem d_Lp_add_46 : decode b_Lp_add 46 = .ok (.getfield 11, 3) := by decide +kernel
theorem d_Lp_add_49 : decode b_Lp_add 49 = .ok (.iload_n 1, 1) := by decide +kernel
theorem d_Lp_add_50 : decode b_Lp_add 50 = .ok (.aaload, 1) := by decide +kernel
theorem d_Lp_add_51 : decode b_Lp_add 51 = .ok (.iload_n 2, 1) := by decide +kernel
theorem d_Lp_add_52 : decode b_Lp_add 52 = .ok (.iload_n 3, 1) := by decide +kernel
theorem d_Lp_add_53 : decode b_Lp_add 53 = .ok (.invokevirtual 80, 3) := by decide +kernel
theorem d_Lp_add_56 : decode b_Lp_add 56 = .ok (.ireturn, 1) := by decide +kernel
theorem d_Lp_requireFunction_0 : decode b_Lp_requireFunction 0 = .ok (.iload_n 0, 1) := by decide +kernel
theorem d_Lp_requireFunction_1 : decode b_Lp_requireFunction 1 = .ok (.invokestatic 115, 3) := by decide +kernel
theorem d_Lp_requireFunction_4 : decode b_Lp_requireFunction 4 = .ok (.ifCond .ne 13, 3) := by decide +kernel
theorem d_Lp_requireFunction_7 : decode b_Lp_requireFunction 7 = .ok (.new 47, 3) := by decide +kernel
theorem d_Lp_requireFunction_10 : decode b_Lp_requireFunction 10 = .ok (.dup, 1) := by decide +kernel
theorem d_Lp_requireFunction_11 : decode b_Lp_requireFunction 11 = .ok (.ldc 206, 2) := by decide +kernel
theorem d_Lp_requireFunction_13 : decode b_Lp_requireFunction 13 = .ok (.invokespecial 51, 3) := by decide +kernel
theorem d_Lp_requireFunction_16 : decode b_Lp_requireFunction 16 = .ok (.athrow, 1) := by decide +kernel
theorem d_Lp_requireFunction_17 : decode b_Lp_requireFunction 17 = .ok (.return_, 1) := by decide +kernel
theorem d_Lp_isFunction_0 : decode b_Lp_isFunction 0 = .ok (.iload_n 0, 1) := by decide +kernel
theorem d_Lp_isFunction_1 : decode b_Lp_isFunction 1 = .ok (.ifCond .lt 13, 3) := by decide +kernel
theorem d_Lp_isFunction_4 : decode b_Lp_isFunction 4 = .ok (.iload_n 0, 1) := by decide +kernel
theorem d_Lp_isFunction_5 : decode b_Lp_isFunction 5 = .ok (.bipush 6, 2) := by decide +kernel
theorem d_Lp_isFunction_7 : decode b_Lp_isFunction 7 = .ok (.if_icmp .ge 7, 3) := by decide +kernel
theorem d_Lp_isFunction_10 : decode b_Lp_isFunction 10 = .ok (.iconst 1, 1) := by decide +kernel
theorem d_Lp_isFunction_11 : decode b_Lp_isFunction 11 = .ok (.goto 4, 3) := by decide +kernel
theorem d_Lp_isFunction_14 : decode b_Lp_isFunction 14 = .ok (.iconst 0, 1) := by decide +kernel
theorem d_Lp_isFunction_15 : decode b_Lp_isFunction 15 = .ok (.ireturn, 1) := by decide +kernel
theorem d_Lp_isAllowed_0 : decode b_Lp_isAllowed 0 = .ok (.iload_n 1, 1) := by decide +kernel
theorem d_Lp_isAllowed_1 : decode b_Lp_isAllowed 1 = .ok (.tableswitch 115 0 7 #[47, 63, 68, 105, 80, 105, 47, 105], 47) := by decide +kernel
theorem d_Lp_isAllowed_48 : decode b_Lp_isAllowed 48 = .ok (.iload_n 2, 1) := by decide +kernel
theorem d_Lp_isAllowed_49 : decode b_Lp_isAllowed 49 = .ok (.ifCond .lt 13, 3) := by decide +kernel
theorem d_Lp_isAllowed_52 : decode b_Lp_isAllowed 52 = .ok (.iload_n 2, 1) := by decide +kernel
theorem d_Lp_isAllowed_53 : decode b_Lp_isAllowed 53 = .ok (.bipush 99, 2) := by decide +kernel
theorem d_Lp_isAllowed_55 : decode b_Lp_isAllowed 55 = .ok (.if_icmp .gt 7, 3) := by decide +kernel
theorem d_Lp_isAllowed_58 : decode b_Lp_isAllowed 58 = .ok (.iconst 1, 1) := by decide +kernel
theorem d_Lp_isAllowed_59 : decode b_Lp_isAllowed 59 = .ok (.goto 4, 3) := by decide +kernel
theorem d_Lp_isAllowed_62 : decode b_Lp_isAllowed 62 = .ok (.iconst 0, 1) := by decide +kernel
theorem d_Lp_isAllowed_63 : decode b_Lp_isAllowed 63 = .ok (.ireturn, 1) := by decide +kernel
theorem d_Lp_isAllowed_64 : decode b_Lp_isAllowed 64 = .ok (.iload_n 2, 1) := by decide +kernel
theorem d_Lp_isAllowed_65 : decode b_Lp_isAllowed 65 = .ok (.invokestatic 115, 3) := by decide +kernel
theorem d_Lp_isAllowed_68 : decode b_Lp_isAllowed 68 = .ok (.ireturn, 1) := by decide +kernel
theorem d_Lp_isAllowed_69 : decode b_Lp_isAllowed 69 = .ok (.aload_n 0, 1) := by decide +kernel
theorem d_Lp_isAllowed_70 : decode b_Lp_isAllowed 70 = .ok (.getfield 33, 3) := by decide +kernel
theorem d_Lp_isAllowed_73 : decode b_Lp_isAllowed 73 = .ok (.getfield 37, 3) := by decide +kernel
theorem d_Lp_isAllowed_76 : decode b_Lp_isAllowed 76 = .ok (.iload_n 2, 1) := by decide +kernel
theorem d_Lp_isAllowed_77 : decode b_Lp_isAllowed 77 = .ok (.invokevirtual 41, 3) := by decide +kernel
theorem d_Lp_isAllowed_80 : decode b_Lp_isAllowed 80 = .ok (.ireturn, 1) := by decide +kernel
theorem d_Lp_isAllowed_81 : decode b_Lp_isAllowed 81 = .ok (.iload_n 2, 1) := by decide +kernel
theorem d_Lp_isAllowed_82 : decode b_Lp_isAllowed 82 = .ok (.iconst (-1), 1) := by decide +kernel
theorem d_Lp_isAllowed_83 : decode b_Lp_isAllowed 83 = .ok (.if_icmp .eq 17, 3) := by decide +kernel
theorem d_Lp_isAllowed_86 : decode b_Lp_isAllowed 86 = .ok (.aload_n 0, 1) := by decide +kernel
theorem d_Lp_isAllowed_87 : decode b_Lp_isAllowed 87 = .ok (.getfield 33, 3) := by decide +kernel
theorem d_Lp_isAllowed_90 : decode b_Lp_isAllowed 90 = .ok (.getfield 37, 3) := by decide +kernel
theorem d_Lp_isAllowed_93 : decode b_Lp_isAllowed 93 = .ok (.iload_n 2, 1) := by decide +kernel
theorem d_Lp_isAllowed_94 : decode b_Lp_isAllowed 94 = .ok (.invokevirtual 41, 3) := by decide +kernel
theorem d_Lp_isAllowed_97 : decode b_Lp_isAllowed 97 = .ok (.ifCond .eq 7, 3) := by decide +kernel
theorem d_Lp_isAllowed_100 : decode b_Lp_isAllowed 100 = .ok (.iconst 1, 1) := by decide +kernel
theorem d_Lp_isAllowed_101 : decode b_Lp_isAllowed 101 = .ok (.goto 4, 3) := by decide +kernel
theorem d_Lp_isAllowed_104 : decode b_Lp_isAllowed 104 = .ok (.iconst 0, 1) := by decide +kernel
theorem d_Lp_isAllowed_105 : decode b_Lp_isAllowed 105 = .ok (.ireturn, 1) := by decide +kernel
theorem d_Lp_isAllowed_106 : decode b_Lp_isAllowed 106 = .ok (.iload_n 2, 1) := by decide +kernel
theorem d_Lp_isAllowed_107 : decode b_Lp_isAllowed 107 = .ok (.ifCond .ne 7, 3) := by decide +kernel
theorem d_Lp_isAllowed_110 : decode b_Lp_isAllowed 110 = .ok (.iconst 1, 1) := by decide +kernel
theorem d_Lp_isAllowed_111 : decode b_Lp_isAllowed 111 = .ok (.goto 4, 3) := by decide +kernel
theorem d_Lp_isAllowed_114 : decode b_Lp_isAllowed 114 = .ok (.iconst 0, 1) := by decide +kernel
theorem d_Lp_isAllowed_115 : decode b_Lp_isAllowed 115 = .ok (.ireturn, 1) := by decide +kernel
theorem d_Lp_isAllowed_116 : decode b_Lp_isAllowed 116 = .ok (.iconst 0, 1) := by decide +kernel
theorem d_Lp_isAllowed_117 : decode b_Lp_isAllowed 117 = .ok (.ireturn, 1) := by decide +kernel
theorem d_Lp_wipe_0 : decode b_Lp_wipe 0 = .ok (.iload_n 1, 1) := by decide +kernel
theorem d_Lp_wipe_1 : decode b_Lp_wipe 1 = .ok (.invokestatic 67, 3) := by decide +kernel
theorem d_Lp_wipe_4 : decode b_Lp_wipe 4 = .ok (.aload_n 0, 1) := by decide +kernel
theorem d_Lp_wipe_5 : decode b_Lp_wipe 5 = .ok (.getfield 11, 3) := by decide +kernel
theorem d_Lp_wipe_8 : decode b_Lp_wipe 8 = .ok (.iload_n 1, 1) := by decide +kernel
theorem d_Lp_wipe_9 : decode b_Lp_wipe 9 = .ok (.aaload, 1) := by decide +kernel
theorem d_Lp_wipe_10 : decode b_Lp_wipe 10 = .ok (.iconst 0, 1) := by decide +kernel
theorem d_Lp_wipe_11 : decode b_Lp_wipe 11 = .ok (.putfield 84, 3) := by decide +kernel
theorem d_Lp_wipe_14 : decode b_Lp_wipe 14 = .ok (.return_, 1) := by decide +kernel
theorem d_Lp_compile_0 : decode b_Lp_compile 0 = .ok (.iload_n 1, 1) := by decide +kernel
theorem d_Lp_compile_1 : decode b_Lp_compile 1 = .ok (.invokestatic 67, 3) := by decide +kernel
theorem d_Lp_compile_4 : decode b_Lp_compile 4 = .ok (.aload_n 0, 1) := by decide +kernel
theorem d_Lp_compile_5 : decode b_Lp_compile 5 = .ok (.getfield 11, 3) := by decide +kernel
theorem d_Lp_compile_8 : decode b_Lp_compile 8 = .ok (.iload_n 1, 1) := by decide +kernel
theorem d_Lp_compile_9 : decode b_Lp_compile 9 = .ok (.aaload, 1) := by decide +kernel
theorem d_Lp_compile_10 : decode b_Lp_compile 10 = .ok (.astore_n 2, 1) := by decide +kernel
theorem d_Lp_compile_11 : decode b_Lp_compile 11 = .ok (.aload_n 0, 1) := by decide +kernel
theorem d_Lp_compile_12 : decode b_Lp_compile 12 = .ok (.getfield 19, 3) := by decide +kernel
theorem d_Lp_compile_15 : decode b_Lp_compile 15 = .ok (.aload_n 2, 1) := by decide +kernel
theorem d_Lp_compile_16 : decode b_Lp_compile 16 = .ok (.invokevirtual 88, 3) := by decide +kernel
theorem d_Lp_compile_19 : decode b_Lp_compile 19 = .ok (.ifCond .ne 13, 3) := by decide +kernel
theorem d_Lp_compile_22 : decode b_Lp_compile 22 = .ok (.new 58, 3) := by decide +kernel
theorem d_Lp_compile_25 : decode b_Lp_compile 25 = .ok (.dup, 1) := by decide +kernel
theorem d_Lp_compile_26 : decode b_Lp_compile 26 = .ok (.ldc 92, 2) := by decide +kernel
theorem d_Lp_compile_28 : decode b_Lp_compile 28 = .ok (.invokespecial 62, 3) := by decide +kernel
theorem d_Lp_compile_31 : decode b_Lp_compile 31 = .ok (.athrow, 1) := by decide +kernel
theorem d_Lp_compile_32 : decode b_Lp_compile 32 = .ok (.aload_n 0, 1) := by decide +kernel
theorem d_Lp_compile_33 : decode b_Lp_compile 33 = .ok (.getfield 33, 3) := by decide +kernel
theorem d_Lp_compile_36 : decode b_Lp_compile 36 = .ok (.getfield 94, 3) := by decide +kernel
theorem d_Lp_compile_39 : decode b_Lp_compile 39 = .ok (.iload_n 1, 1) := by decide +kernel
theorem d_Lp_compile_40 : decode b_Lp_compile 40 = .ok (.aaload, 1) := by decide +kernel
theorem d_Lp_compile_41 : decode b_Lp_compile 41 = .ok (.astore_n 3, 1) := by decide +kernel
theorem d_Lp_compile_42 : decode b_Lp_compile 42 = .ok (.aload_n 0, 1) := by decide +kernel
theorem d_Lp_compile_43 : decode b_Lp_compile 43 = .ok (.getfield 26, 3) := by decide +kernel
theorem d_Lp_compile_46 : decode b_Lp_compile 46 = .ok (.aload_n 2, 1) := by decide +kernel
theorem d_Lp_compile_47 : decode b_Lp_compile 47 = .ok (.aload_n 3, 1) := by decide +kernel
theorem d_Lp_compile_48 : decode b_Lp_compile 48 = .ok (.invokevirtual 98, 3) := by decide +kernel
theorem d_Lp_compile_51 : decode b_Lp_compile 51 = .ok (.aload_n 3, 1) := by decide +kernel
theorem d_Lp_compile_52 : decode b_Lp_compile 52 = .ok (.getfield 102, 3) := by decide +kernel
theorem d_Lp_compile_55 : decode b_Lp_compile 55 = .ok (.ireturn, 1) := by decide +kernel
theorem d_Lp_size_0 : decode b_Lp_size 0 = .ok (.iload_n 1, 1) := by decide +kernel
theorem d_Lp_size_1 : decode b_Lp_size 1 = .ok (.invokestatic 67, 3) := by decide +kernel
theorem d_Lp_size_4 : decode b_Lp_size 4 = .ok (.aload_n 0, 1) := by decide +kernel
theorem d_Lp_size_5 : decode b_Lp_size 5 = .ok (.getfield 33, 3) := by decide +kernel
theorem d_Lp_size_8 : decode b_Lp_size 8 = .ok (.getfield 94, 3) := by decide +kernel
theorem d_Lp_size_11 : decode b_Lp_size 11 = .ok (.iload_n 1, 1) := by decide +kernel
theorem d_Lp_size_12 : decode b_Lp_size 12 = .ok (.aaload, 1) := by decide +kernel
theorem d_Lp_size_13 : decode b_Lp_size 13 = .ok (.astore_n 3, 1) := by decide +kernel
theorem d_Lp_size_14 : decode b_Lp_size 14 = .ok (.iload_n 2, 1) := by decide +kernel
theorem d_Lp_size_15 : decode b_Lp_size 15 = .ok (.tableswitch 40 0 2 #[25, 30, 35], 25) := by decide +kernel
theorem d_Lp_size_40 : decode b_Lp_size 40 = .ok (.aload_n 3, 1) := by decide +kernel
theorem d_Lp_size_41 : decode b_Lp_size 41 = .ok (.getfield 102, 3) := by decide +kernel
theorem d_Lp_size_44 : decode b_Lp_size 44 = .ok (.ireturn, 1) := by decide +kernel
theorem d_Lp_size_45 : decode b_Lp_size 45 = .ok (.aload_n 3, 1) := by decide +kernel
theorem d_Lp_size_46 : decode b_Lp_size 46 = .ok (.getfield 107, 3) := by decide +kernel
theorem d_Lp_size_49 : decode b_Lp_size 49 = .ok (.ireturn, 1) := by decide +kernel
theorem d_Lp_size_50 : decode b_Lp_size 50 = .ok (.aload_n 3, 1) := by decide +kernel
theorem d_Lp_size_51 : decode b_Lp_size 51 = .ok (.getfield 110, 3) := by decide +kernel
theorem d_Lp_size_54 : decode b_Lp_size 54 = .ok (.ireturn, 1) := by decide +kernel
theorem d_Lp_size_55 : decode b_Lp_size 55 = .ok (.new 47, 3) := by decide +kernel
theorem d_Lp_size_58 : decode b_Lp_size 58 = .ok (.dup, 1) := by decide +kernel
theorem d_Lp_size_59 : decode b_Lp_size 59 = .ok (.ldc 113, 2) := by decide +kernel
theorem d_Lp_size_61 : decode b_Lp_size 61 = .ok (.invokespecial 51, 3) := by decide +kernel
theorem d_Lp_size_64 : decode b_Lp_size 64 = .ok (.athrow, 1) := by decide +kernel
theorem d_Lp_code_0 : decode b_Lp_code 0 = .ok (.iload_n 1, 1) := by decide +kernel
theorem d_Lp_code_1 : decode b_Lp_code 1 = .ok (.invokestatic 115, 3) := by decide +kernel
theorem d_Lp_code_4 : decode b_Lp_code 4 = .ok (.ifCond .eq 19, 3) := by decide +kernel
theorem d_Lp_code_7 : decode b_Lp_code 7 = .ok (.aload_n 0, 1) := by decide +kernel
theorem d_Lp_code_8 : decode b_Lp_code 8 = .ok (.getfield 33, 3) := by decide +kernel
theorem d_Lp_code_11 : decode b_Lp_code 11 = .ok (.getfield 94, 3) := by decide +kernel
theorem d_Lp_code_14 : decode b_Lp_code 14 = .ok (.iload_n 1, 1) := by decide +kernel
theorem d_Lp_code_15 : decode b_Lp_code 15 = .ok (.aaload, 1) := by decide +kernel
theorem d_Lp_code_16 : decode b_Lp_code 16 = .ok (.iload_n 2, 1) := by decide +kernel
theorem d_Lp_code_17 : decode b_Lp_code 17 = .ok (.invokevirtual 118, 3) := by decide +kernel
theorem d_Lp_code_20 : decode b_Lp_code 20 = .ok (.ifCond .ne 13, 3) := by decide +kernel
theorem d_Lp_code_23 : decode b_Lp_code 23 = .ok (.new 121, 3) := by decide +kernel
theorem d_Lp_code_26 : decode b_Lp_code 26 = .ok (.dup, 1) := by decide +kernel
theorem d_Lp_code_27 : decode b_Lp_code 27 = .ok (.ldc 123, 2) := by decide +kernel
theorem d_Lp_code_29 : decode b_Lp_code 29 = .ok (.invokespecial 125, 3) := by decide +kernel
theorem d_Lp_code_32 : decode b_Lp_code 32 = .ok (.athrow, 1) := by decide +kernel
theorem d_Lp_code_33 : decode b_Lp_code 33 = .ok (.aload_n 0, 1) := by decide +kernel
theorem d_Lp_code_34 : decode b_Lp_code 34 = .ok (.getfield 33, 3) := by decide +kernel
theorem d_Lp_code_37 : decode b_Lp_code 37 = .ok (.getfield 94, 3) := by decide +kernel
theorem d_Lp_code_40 : decode b_Lp_code 40 = .ok (.iload_n 1, 1) := by decide +kernel
theorem d_Lp_code_41 : decode b_Lp_code 41 = .ok (.aaload, 1) := by decide +kernel
theorem d_Lp_code_42 : decode b_Lp_code 42 = .ok (.astore 4, 2) := by decide +kernel
theorem d_Lp_code_44 : decode b_Lp_code 44 = .ok (.iload_n 3, 1) := by decide +kernel
theorem d_Lp_code_45 : decode b_Lp_code 45 = .ok (.lookupswitch 41 #[(0, 27), (1, 34)], 27) := by decide +kernel
theorem d_Lp_code_72 : decode b_Lp_code 72 = .ok (.aload 4, 2) := by decide +kernel
theorem d_Lp_code_74 : decode b_Lp_code 74 = .ok (.iload_n 2, 1) := by decide +kernel
theorem d_Lp_code_75 : decode b_Lp_code 75 = .ok (.invokevirtual 126, 3) := by decide +kernel
theorem d_Lp_code_78 : decode b_Lp_code 78 = .ok (.ireturn, 1) := by decide +kernel
theorem d_Lp_code_79 : decode b_Lp_code 79 = .ok (.aload 4, 2) := by decide +kernel
theorem d_Lp_code_81 : decode b_Lp_code 81 = .ok (.iload_n 2, 1) := by decide +kernel
theorem d_Lp_code_82 : decode b_Lp_code 82 = .ok (.invokevirtual 129, 3) := by decide +kernel
theorem d_Lp_code_85 : decode b_Lp_code 85 = .ok (.ireturn, 1) := by decide +kernel
theorem d_Lp_code_86 : decode b_Lp_code 86 = .ok (.new 121, 3) := by decide +kernel
theorem d_Lp_code_89 : decode b_Lp_code 89 = .ok (.dup, 1) := by decide +kernel
theorem d_Lp_code_90 : decode b_Lp_code 90 = .ok (.ldc 132, 2) := by decide +kernel
theorem d_Lp_code_92 : decode b_Lp_code 92 = .ok (.invokespecial 125, 3) := by decide +kernel
theorem d_Lp_code_95 : decode b_Lp_code 95 = .ok (.athrow, 1) := by decide +kernel
theorem d_Lp_action_0 : decode b_Lp_action 0 = .ok (.iload_n 1, 1) := by decide +kernel
theorem d_Lp_action_1 : decode b_Lp_action 1 = .ok (.invokestatic 115, 3) := by decide +kernel
theorem d_Lp_action_4 : decode b_Lp_action 4 = .ok (.ifCond .eq 19, 3) := by decide +kernel
theorem d_Lp_action_7 : decode b_Lp_action 7 = .ok (.aload_n 0, 1) := by decide +kernel
theorem d_Lp_action_8 : decode b_Lp_action 8 = .ok (.getfield 33, 3) := by decide +kernel
theorem d_Lp_action_11 : decode b_Lp_action 11 = .ok (.getfield 94, 3) := by decide +kernel
theorem d_Lp_action_14 : decode b_Lp_action 14 = .ok (.iload_n 1, 1) := by decide +kernel
theorem d_Lp_action_15 : decode b_Lp_action 15 = .ok (.aaload, 1) := by decide +kernel
theorem d_Lp_action_16 : decode b_Lp_action 16 = .ok (.iload_n 2, 1) := by decide +kernel
theorem d_Lp_action_17 : decode b_Lp_action 17 = .ok (.invokevirtual 134, 3) := by decide +kernel
theorem d_Lp_action_20 : decode b_Lp_action 20 = .ok (.ifCond .ne 13, 3) := by decide +kernel
theorem d_Lp_action_23 : decode b_Lp_action 23 = .ok (.new 121, 3) := by decide +kernel
theorem d_Lp_action_26 : decode b_Lp_action 26 = .ok (.dup, 1) := by decide +kernel
theorem d_Lp_action_27 : decode b_Lp_action 27 = .ok (.ldc 137, 2) := by decide +kernel
theorem d_Lp_action_29 : decode b_Lp_action 29 = .ok (.invokespecial 125, 3) := by decide +kernel
theorem d_Lp_action_32 : decode b_Lp_action 32 = .ok (.athrow, 1) := by decide +kernel
theorem d_Lp_action_33 : decode b_Lp_action 33 = .ok (.aload_n 0, 1) := by decide +kernel
theorem d_Lp_action_34 : decode b_Lp_action 34 = .ok (.getfield 33, 3) := by decide +kernel
theorem d_Lp_action_37 : decode b_Lp_action 37 = .ok (.getfield 94, 3) := by decide +kernel
theorem d_Lp_action_40 : decode b_Lp_action 40 = .ok (.iload_n 1, 1) := by decide +kernel
theorem d_Lp_action_41 : decode b_Lp_action 41 = .ok (.aaload, 1) := by decide +kernel
theorem d_Lp_action_42 : decode b_Lp_action 42 = .ok (.astore 4, 2) := by decide +kernel
theorem d_Lp_action_44 : decode b_Lp_action 44 = .ok (.iload_n 3, 1) := by decide +kernel
theorem d_Lp_action_45 : decode b_Lp_action 45 = .ok (.tableswitch 48 0 2 #[27, 34, 41], 27) := by decide +kernel
theorem d_Lp_action_72 : decode b_Lp_action 72 = .ok (.aload 4, 2) := by decide +kernel
theorem d_Lp_action_74 : decode b_Lp_action 74 = .ok (.iload_n 2, 1) := by decide +kernel
theorem d_Lp_action_75 : decode b_Lp_action 75 = .ok (.invokevirtual 139, 3) := by decide +kernel
theorem d_Lp_action_78 : decode b_Lp_action 78 = .ok (.ireturn, 1) := by decide +kernel
theorem d_Lp_action_79 : decode b_Lp_action 79 = .ok (.aload 4, 2) := by decide +kernel
theorem d_Lp_action_81 : decode b_Lp_action 81 = .ok (.iload_n 2, 1) := by decide +kernel
theorem d_Lp_action_82 : decode b_Lp_action 82 = .ok (.invokevirtual 142, 3) := by decide +kernel
theorem d_Lp_action_85 : decode b_Lp_action 85 = .ok (.ireturn, 1) := by decide +kernel
theorem d_Lp_action_86 : decode b_Lp_action 86 = .ok (.aload 4, 2) := by decide +kernel
theorem d_Lp_action_88 : decode b_Lp_action 88 = .ok (.iload_n 2, 1) := by decide +kernel
theorem d_Lp_action_89 : decode b_Lp_action 89 = .ok (.invokevirtual 145, 3) := by decide +kernel
theorem d_Lp_action_92 : decode b_Lp_action 92 = .ok (.ireturn, 1) := by decide +kernel
theorem d_Lp_action_93 : decode b_Lp_action 93 = .ok (.new 121, 3) := by decide +kernel
theorem d_Lp_action_96 : decode b_Lp_action 96 = .ok (.dup, 1) := by decide +kernel
theorem d_Lp_action_97 : decode b_Lp_action 97 = .ok (.ldc 148, 2) := by decide +kernel
theorem d_Lp_action_99 : decode b_Lp_action 99 = .ok (.invokespecial 125, 3) := by decide +kernel
theorem d_Lp_action_102 : decode b_Lp_action 102 = .ok (.athrow, 1) := by decide +kernel
theorem d_Lp_site_0 : decode b_Lp_site 0 = .ok (.iload_n 1, 1) := by decide +kernel
theorem d_Lp_site_1 : decode b_Lp_site 1 = .ok (.invokestatic 115, 3) := by decide +kernel
theorem d_Lp_site_4 : decode b_Lp_site 4 = .ok (.ifCond .eq 19, 3) := by decide +kernel
theorem d_Lp_site_7 : decode b_Lp_site 7 = .ok (.aload_n 0, 1) := by decide +kernel
theorem d_Lp_site_8 : decode b_Lp_site 8 = .ok (.getfield 33, 3) := by decide +kernel
theorem d_Lp_site_11 : decode b_Lp_site 11 = .ok (.getfield 94, 3) := by decide +kernel
theorem d_Lp_site_14 : decode b_Lp_site 14 = .ok (.iload_n 1, 1) := by decide +kernel
theorem d_Lp_site_15 : decode b_Lp_site 15 = .ok (.aaload, 1) := by decide +kernel
theorem d_Lp_site_16 : decode b_Lp_site 16 = .ok (.iload_n 2, 1) := by decide +kernel
theorem d_Lp_site_17 : decode b_Lp_site 17 = .ok (.invokevirtual 150, 3) := by decide +kernel
theorem d_Lp_site_20 : decode b_Lp_site 20 = .ok (.ifCond .ne 13, 3) := by decide +kernel
theorem d_Lp_site_23 : decode b_Lp_site 23 = .ok (.new 121, 3) := by decide +kernel
theorem d_Lp_site_26 : decode b_Lp_site 26 = .ok (.dup, 1) := by decide +kernel
theorem d_Lp_site_27 : decode b_Lp_site 27 = .ok (.ldc 153, 2) := by decide +kernel
theorem d_Lp_site_29 : decode b_Lp_site 29 = .ok (.invokespecial 125, 3) := by decide +kernel
theorem d_Lp_site_32 : decode b_Lp_site 32 = .ok (.athrow, 1) := by decide +kernel
theorem d_Lp_site_33 : decode b_Lp_site 33 = .ok (.aload_n 0, 1) := by decide +kernel
theorem d_Lp_site_34 : decode b_Lp_site 34 = .ok (.getfield 33, 3) := by decide +kernel
theorem d_Lp_site_37 : decode b_Lp_site 37 = .ok (.getfield 94, 3) := by decide +kernel
theorem d_Lp_site_40 : decode b_Lp_site 40 = .ok (.iload_n 1, 1) := by decide +kernel
theorem d_Lp_site_41 : decode b_Lp_site 41 = .ok (.aaload, 1) := by decide +kernel
theorem d_Lp_site_42 : decode b_Lp_site 42 = .ok (.astore 4, 2) := by decide +kernel
theorem d_Lp_site_44 : decode b_Lp_site 44 = .ok (.iload_n 3, 1) := by decide +kernel
theorem d_Lp_site_45 : decode b_Lp_site 45 = .ok (.tableswitch 48 0 2 #[27, 34, 41], 27) := by decide +kernel
theorem d_Lp_site_72 : decode b_Lp_site 72 = .ok (.aload 4, 2) := by decide +kernel
theorem d_Lp_site_74 : decode b_Lp_site 74 = .ok (.iload_n 2, 1) := by decide +kernel
theorem d_Lp_site_75 : decode b_Lp_site 75 = .ok (.invokevirtual 155, 3) := by decide +kernel
theorem d_Lp_site_78 : decode b_Lp_site 78 = .ok (.ireturn, 1) := by decide +kernel
theorem d_Lp_site_79 : decode b_Lp_site 79 = .ok (.aload 4, 2) := by decide +kernel
theorem d_Lp_site_81 : decode b_Lp_site 81 = .ok (.iload_n 2, 1) := by decide +kernel
theorem d_Lp_site_82 : decode b_Lp_site 82 = .ok (.invokevirtual 158, 3) := by decide +kernel
theorem d_Lp_site_85 : decode b_Lp_site 85 = .ok (.ireturn, 1) := by decide +kernel
theorem d_Lp_site_86 : decode b_Lp_site 86 = .ok (.aload 4, 2) := by decide +kernel
theorem d_Lp_site_88 : decode b_Lp_site 88 = .ok (.iload_n 2, 1) := by decide +kernel
theorem d_Lp_site_89 : decode b_Lp_site 89 = .ok (.invokevirtual 161, 3) := by decide +kernel
theorem d_Lp_site_92 : decode b_Lp_site 92 = .ok (.ireturn, 1) := by decide +kernel
theorem d_Lp_site_93 : decode b_Lp_site 93 = .ok (.new 121, 3) := by decide +kernel
theorem d_Lp_site_96 : decode b_Lp_site 96 = .ok (.dup, 1) := by decide +kernel
theorem d_Lp_site_97 : decode b_Lp_site 97 = .ok (.ldc 164, 2) := by decide +kernel
theorem d_Lp_site_99 : decode b_Lp_site 99 = .ok (.invokespecial 125, 3) := by decide +kernel
theorem d_Lp_site_102 : decode b_Lp_site 102 = .ok (.athrow, 1) := by decide +kernel
theorem d_Lp_run_0 : decode b_Lp_run 0 = .ok (.iload_n 1, 1) := by decide +kernel
theorem d_Lp_run_1 : decode b_Lp_run 1 = .ok (.invokestatic 67, 3) := by decide +kernel
theorem d_Lp_run_4 : decode b_Lp_run 4 = .ok (.aload_n 0, 1) := by decide +kernel
theorem d_Lp_run_5 : decode b_Lp_run 5 = .ok (.getfield 33, 3) := by decide +kernel
theorem d_Lp_run_8 : decode b_Lp_run 8 = .ok (.getfield 94, 3) := by decide +kernel
theorem d_Lp_run_11 : decode b_Lp_run 11 = .ok (.iload_n 1, 1) := by decide +kernel
theorem d_Lp_run_12 : decode b_Lp_run 12 = .ok (.aaload, 1) := by decide +kernel
theorem d_Lp_run_13 : decode b_Lp_run 13 = .ok (.invokevirtual 166, 3) := by decide +kernel
theorem d_Lp_run_16 : decode b_Lp_run 16 = .ok (.ifCond .ne 13, 3) := by decide +kernel
theorem d_Lp_run_19 : decode b_Lp_run 19 = .ok (.new 58, 3) := by decide +kernel
theorem d_Lp_run_22 : decode b_Lp_run 22 = .ok (.dup, 1) := by decide +kernel
theorem d_Lp_run_23 : decode b_Lp_run 23 = .ok (.ldc 169, 2) := by decide +kernel
theorem d_Lp_run_25 : decode b_Lp_run 25 = .ok (.invokespecial 62, 3) := by decide +kernel
theorem d_Lp_run_28 : decode b_Lp_run 28 = .ok (.athrow, 1) := by decide +kernel
theorem d_Lp_run_29 : decode b_Lp_run 29 = .ok (.aload_n 0, 1) := by decide +kernel
theorem d_Lp_run_30 : decode b_Lp_run 30 = .ok (.getfield 33, 3) := by decide +kernel
theorem d_Lp_run_33 : decode b_Lp_run 33 = .ok (.iload_n 1, 1) := by decide +kernel
theorem d_Lp_run_34 : decode b_Lp_run 34 = .ok (.invokevirtual 171, 3) := by decide +kernel
theorem d_Lp_run_37 : decode b_Lp_run 37 = .ok (.ireturn, 1) := by decide +kernel
theorem d_Lp_count_0 : decode b_Lp_count 0 = .ok (.aload_n 0, 1) := by decide +kernel
theorem d_Lp_count_1 : decode b_Lp_count 1 = .ok (.getfield 33, 3) := by decide +kernel
theorem d_Lp_count_4 : decode b_Lp_count 4 = .ok (.getfield 174, 3) := by decide +kernel
theorem d_Lp_count_7 : decode b_Lp_count 7 = .ok (.astore_n 2, 1) := by decide +kernel
theorem d_Lp_count_8 : decode b_Lp_count 8 = .ok (.iload_n 1, 1) := by decide +kernel
theorem d_Lp_count_9 : decode b_Lp_count 9 = .ok (.tableswitch 69 0 5 #[39, 44, 49, 54, 59, 64], 39) := by decide +kernel
theorem d_Lp_count_48 : decode b_Lp_count 48 = .ok (.aload_n 2, 1) := by decide +kernel
theorem d_Lp_count_49 : decode b_Lp_count 49 = .ok (.getfield 178, 3) := by decide +kernel
theorem d_Lp_count_52 : decode b_Lp_count 52 = .ok (.ireturn, 1) := by decide +kernel
theorem d_Lp_count_53 : decode b_Lp_count 53 = .ok (.aload_n 2, 1) := by decide +kernel
theorem d_Lp_count_54 : decode b_Lp_count 54 = .ok (.getfield 183, 3) := by decide +kernel
theorem d_Lp_count_57 : decode b_Lp_count 57 = .ok (.ireturn, 1) := by decide +kernel
theorem d_Lp_count_58 : decode b_Lp_count 58 = .ok (.aload_n 2, 1) := by decide +kernel
theorem d_Lp_count_59 : decode b_Lp_count 59 = .ok (.getfield 186, 3) := by decide +kernel
theorem d_Lp_count_62 : decode b_Lp_count 62 = .ok (.ireturn, 1) := by decide +kernel
theorem d_Lp_count_63 : decode b_Lp_count 63 = .ok (.aload_n 2, 1) := by decide +kernel
theorem d_Lp_count_64 : decode b_Lp_count 64 = .ok (.getfield 189, 3) := by decide +kernel
theorem d_Lp_count_67 : decode b_Lp_count 67 = .ok (.ireturn, 1) := by decide +kernel
theorem d_Lp_count_68 : decode b_Lp_count 68 = .ok (.aload_n 2, 1) := by decide +kernel
theorem d_Lp_count_69 : decode b_Lp_count 69 = .ok (.getfield 192, 3) := by decide +kernel
theorem d_Lp_count_72 : decode b_Lp_count 72 = .ok (.ireturn, 1) := by decide +kernel
theorem d_Lp_count_73 : decode b_Lp_count 73 = .ok (.aload_n 2, 1) := by decide +kernel
theorem d_Lp_count_74 : decode b_Lp_count 74 = .ok (.getfield 195, 3) := by decide +kernel
theorem d_Lp_count_77 : decode b_Lp_count 77 = .ok (.ireturn, 1) := by decide +kernel
theorem d_Lp_count_78 : decode b_Lp_count 78 = .ok (.new 47, 3) := by decide +kernel
theorem d_Lp_count_81 : decode b_Lp_count 81 = .ok (.dup, 1) := by decide +kernel
theorem d_Lp_count_82 : decode b_Lp_count 82 = .ok (.ldc 113, 2) := by decide +kernel
theorem d_Lp_count_84 : decode b_Lp_count 84 = .ok (.invokespecial 51, 3) := by decide +kernel
theorem d_Lp_count_87 : decode b_Lp_count 87 = .ok (.athrow, 1) := by decide +kernel
theorem d_Lp_out_0 : decode b_Lp_out 0 = .ok (.aload_n 0, 1) := by decide +kernel
theorem d_Lp_out_1 : decode b_Lp_out 1 = .ok (.getfield 33, 3) := by decide +kernel
theorem d_Lp_out_4 : decode b_Lp_out 4 = .ok (.getfield 174, 3) := by decide +kernel
theorem d_Lp_out_7 : decode b_Lp_out 7 = .ok (.iload_n 1, 1) := by decide +kernel
theorem d_Lp_out_8 : decode b_Lp_out 8 = .ok (.invokevirtual 198, 3) := by decide +kernel
theorem d_Lp_out_11 : decode b_Lp_out 11 = .ok (.ifCond .ne 13, 3) := by decide +kernel
theorem d_Lp_out_14 : decode b_Lp_out 14 = .ok (.new 121, 3) := by decide +kernel
theorem d_Lp_out_17 : decode b_Lp_out 17 = .ok (.dup, 1) := by decide +kernel
theorem d_Lp_out_18 : decode b_Lp_out 18 = .ok (.ldc 201, 2) := by decide +kernel
theorem d_Lp_out_20 : decode b_Lp_out 20 = .ok (.invokespecial 125, 3) := by decide +kernel
theorem d_Lp_out_23 : decode b_Lp_out 23 = .ok (.athrow, 1) := by decide +kernel
theorem d_Lp_out_24 : decode b_Lp_out 24 = .ok (.aload_n 0, 1) := by decide +kernel
theorem d_Lp_out_25 : decode b_Lp_out 25 = .ok (.getfield 33, 3) := by decide +kernel
theorem d_Lp_out_28 : decode b_Lp_out 28 = .ok (.getfield 174, 3) := by decide +kernel
theorem d_Lp_out_31 : decode b_Lp_out 31 = .ok (.iload_n 1, 1) := by decide +kernel
theorem d_Lp_out_32 : decode b_Lp_out 32 = .ok (.invokevirtual 203, 3) := by decide +kernel
theorem d_Lp_out_35 : decode b_Lp_out 35 = .ok (.ireturn, 1) := by decide +kernel
theorem d_Bl_init_0 : decode b_Bl_init 0 = .ok (.aload_n 0, 1) := by decide +kernel
theorem d_Bl_init_1 : decode b_Bl_init 1 = .ok (.invokespecial 3, 3) := by decide +kernel
theorem d_Bl_init_4 : decode b_Bl_init 4 = .ok (.aload_n 0, 1) := by decide +kernel
theorem d_Bl_init_5 : decode b_Bl_init 5 = .ok (.bipush 20, 2) := by decide +kernel
theorem d_Bl_init_7 : decode b_Bl_init 7 = .ok (.newarray .int, 2) := by decide +kernel
theorem d_Bl_init_9 : decode b_Bl_init 9 = .ok (.putfield 9, 3) := by decide +kernel
theorem d_Bl_init_12 : decode b_Bl_init 12 = .ok (.return_, 1) := by decide +kernel
theorem d_Bl_begin_0 : decode b_Bl_begin 0 = .ok (.aload_n 0, 1) := by decide +kernel
theorem d_Bl_begin_1 : decode b_Bl_begin 1 = .ok (.iload_n 1, 1) := by decide +kernel
theorem d_Bl_begin_2 : decode b_Bl_begin 2 = .ok (.putfield 15, 3) := by decide +kernel
theorem d_Bl_begin_5 : decode b_Bl_begin 5 = .ok (.aload_n 0, 1) := by decide +kernel
theorem d_Bl_begin_6 : decode b_Bl_begin 6 = .ok (.iload_n 2, 1) := by decide +kernel
theorem d_Bl_begin_7 : decode b_Bl_begin 7 = .ok (.putfield 19, 3) := by decide +kernel
theorem d_Bl_begin_10 : decode b_Bl_begin 10 = .ok (.aload_n 0, 1) := by decide +kernel
theorem d_Bl_begin_11 : decode b_Bl_begin 11 = .ok (.iload_n 3, 1) := by decide +kernel
theorem d_Bl_begin_12 : decode b_Bl_begin 12 = .ok (.putfield 22, 3) := by decide +kernel
theorem d_Bl_begin_15 : decode b_Bl_begin 15 = .ok (.aload_n 0, 1) := by decide +kernel
theorem d_Bl_begin_16 : decode b_Bl_begin 16 = .ok (.iload 4, 2) := by decide +kernel
theorem d_Bl_begin_18 : decode b_Bl_begin 18 = .ok (.putfield 25, 3) := by decide +kernel
theorem d_Bl_begin_21 : decode b_Bl_begin 21 = .ok (.aload_n 0, 1) := by decide +kernel
theorem d_Bl_begin_22 : decode b_Bl_begin 22 = .ok (.iload_n 3, 1) := by decide +kernel
theorem d_Bl_begin_23 : decode b_Bl_begin 23 = .ok (.putfield 28, 3) := by decide +kernel
theorem d_Bl_begin_26 : decode b_Bl_begin 26 = .ok (.aload_n 0, 1) := by decide +kernel
theorem d_Bl_begin_27 : decode b_Bl_begin 27 = .ok (.iconst 0, 1) := by decide +kernel
theorem d_Bl_begin_28 : decode b_Bl_begin 28 = .ok (.putfield 31, 3) := by decide +kernel
theorem d_Bl_begin_31 : decode b_Bl_begin 31 = .ok (.return_, 1) := by decide +kernel
theorem d_Bl_noteExit_0 : decode b_Bl_noteExit 0 = .ok (.aload_n 0, 1) := by decide +kernel
theorem d_Bl_noteExit_1 : decode b_Bl_noteExit 1 = .ok (.getfield 31, 3) := by decide +kernel
theorem d_Bl_noteExit_4 : decode b_Bl_noteExit 4 = .ok (.bipush 20, 2) := by decide +kernel
theorem d_Bl_noteExit_6 : decode b_Bl_noteExit 6 = .ok (.if_icmp .ge 23, 3) := by decide +kernel
theorem d_Bl_noteExit_9 : decode b_Bl_noteExit 9 = .ok (.aload_n 0, 1) := by decide +kernel
theorem d_Bl_noteExit_10 : decode b_Bl_noteExit 10 = .ok (.getfield 9, 3) := by decide +kernel
theorem d_Bl_noteExit_13 : decode b_Bl_noteExit 13 = .ok (.aload_n 0, 1) := by decide +kernel
theorem d_Bl_noteExit_14 : decode b_Bl_noteExit 14 = .ok (.getfield 31, 3) := by decide +kernel
theorem d_Bl_noteExit_17 : decode b_Bl_noteExit 17 = .ok (.iload_n 1, 1) := by decide +kernel
theorem d_Bl_noteExit_18 : decode b_Bl_noteExit 18 = .ok (.iastore, 1) := by decide +kernel
theorem d_Bl_noteExit_19 : decode b_Bl_noteExit 19 = .ok (.aload_n 0, 1) := by decide +kernel
theorem d_Bl_noteExit_20 : decode b_Bl_noteExit 20 = .ok (.dup, 1) := by decide +kernel
theorem d_Bl_noteExit_21 : decode b_Bl_noteExit 21 = .ok (.getfield 31, 3) := by decide +kernel
theorem d_Bl_noteExit_24 : decode b_Bl_noteExit 24 = .ok (.iconst 1, 1) := by decide +kernel
theorem d_Bl_noteExit_25 : decode b_Bl_noteExit 25 = .ok (.iadd, 1) := by decide +kernel
theorem d_Bl_noteExit_26 : decode b_Bl_noteExit 26 = .ok (.putfield 31, 3) := by decide +kernel
theorem d_Bl_noteExit_29 : decode b_Bl_noteExit 29 = .ok (.return_, 1) := by decide +kernel
theorem d_Bl_aimExits_0 : decode b_Bl_aimExits 0 = .ok (.iconst 0, 1) := by decide +kernel
theorem d_Bl_aimExits_1 : decode b_Bl_aimExits 1 = .ok (.istore_n 2, 1) := by decide +kernel
theorem d_Bl_aimExits_2 : decode b_Bl_aimExits 2 = .ok (.iload_n 2, 1) := by decide +kernel
theorem d_Bl_aimExits_3 : decode b_Bl_aimExits 3 = .ok (.aload_n 0, 1) := by decide +kernel
theorem d_Bl_aimExits_4 : decode b_Bl_aimExits 4 = .ok (.getfield 31, 3) := by decide +kernel
theorem d_Bl_aimExits_7 : decode b_Bl_aimExits 7 = .ok (.if_icmp .ge 23, 3) := by decide +kernel
theorem d_Bl_aimExits_10 : decode b_Bl_aimExits 10 = .ok (.aload_n 1, 1) := by decide +kernel
theorem d_Bl_aimExits_11 : decode b_Bl_aimExits 11 = .ok (.aload_n 0, 1) := by decide +kernel
theorem d_Bl_aimExits_12 : decode b_Bl_aimExits 12 = .ok (.getfield 9, 3) := by decide +kernel
theorem d_Bl_aimExits_15 : decode b_Bl_aimExits 15 = .ok (.iload_n 2, 1) := by decide +kernel
theorem d_Bl_aimExits_16 : decode b_Bl_aimExits 16 = .ok (.iaload, 1) := by decide +kernel
theorem d_Bl_aimExits_17 : decode b_Bl_aimExits 17 = .ok (.aload_n 1, 1) := by decide +kernel
theorem d_Bl_aimExits_18 : decode b_Bl_aimExits 18 = .ok (.getfield 34, 3) := by decide +kernel
theorem d_Bl_aimExits_21 : decode b_Bl_aimExits 21 = .ok (.invokevirtual 39, 3) := by decide +kernel
theorem d_Bl_aimExits_24 : decode b_Bl_aimExits 24 = .ok (.iinc 2 1, 3) := by decide +kernel
theorem d_Bl_aimExits_27 : decode b_Bl_aimExits 27 = .ok (.goto (-25), 3) := by decide +kernel
theorem d_Bl_aimExits_30 : decode b_Bl_aimExits 30 = .ok (.return_, 1) := by decide +kernel
theorem d_Ck_init_0 : decode b_Ck_init 0 = .ok (.aload_n 0, 1) := by decide +kernel
theorem d_Ck_init_1 : decode b_Ck_init 1 = .ok (.invokespecial 3, 3) := by decide +kernel
theorem d_Ck_init_4 : decode b_Ck_init 4 = .ok (.aload_n 0, 1) := by decide +kernel
theorem d_Ck_init_5 : decode b_Ck_init 5 = .ok (.iconst 5, 1) := by decide +kernel
theorem d_Ck_init_6 : decode b_Ck_init 6 = .ok (.newarray .int, 2) := by decide +kernel
theorem d_Ck_init_8 : decode b_Ck_init 8 = .ok (.putfield 9, 3) := by decide +kernel
theorem d_Ck_init_11 : decode b_Ck_init 11 = .ok (.return_, 1) := by decide +kernel
theorem d_Ck_isWellFormed_0 : decode b_Ck_isWellFormed 0 = .ok (.aload_n 0, 1) := by decide +kernel
theorem d_Ck_isWellFormed_1 : decode b_Ck_isWellFormed 1 = .ok (.iconst 0, 1) := by decide +kernel
theorem d_Ck_isWellFormed_2 : decode b_Ck_isWellFormed 2 = .ok (.putfield 15, 3) := by decide +kernel
theorem d_Ck_isWellFormed_5 : decode b_Ck_isWellFormed 5 = .ok (.iconst 0, 1) := by decide +kernel
theorem d_Ck_isWellFormed_6 : decode b_Ck_isWellFormed 6 = .ok (.istore_n 2, 1) := by decide +kernel
theorem d_Ck_isWellFormed_7 : decode b_Ck_isWellFormed 7 = .ok (.iload_n 2, 1) := by decide +kernel
theorem d_Ck_isWellFormed_8 : decode b_Ck_isWellFormed 8 = .ok (.aload_n 1, 1) := by decide +kernel
theorem d_Ck_isWellFormed_9 : decode b_Ck_isWellFormed 9 = .ok (.getfield 19, 3) := by decide +kernel
theorem d_Ck_isWellFormed_12 : decode b_Ck_isWellFormed 12 = .ok (.if_icmp .ge 23, 3) := by decide +kernel
theorem d_Ck_isWellFormed_15 : decode b_Ck_isWellFormed 15 = .ok (.aload_n 0, 1) := by decide +kernel
theorem d_Ck_isWellFormed_16 : decode b_Ck_isWellFormed 16 = .ok (.aload_n 1, 1) := by decide +kernel
theorem d_Ck_isWellFormed_17 : decode b_Ck_isWellFormed 17 = .ok (.iload_n 2, 1) := by decide +kernel
theorem d_Ck_isWellFormed_18 : decode b_Ck_isWellFormed 18 = .ok (.invokevirtual 24, 3) := by decide +kernel
theorem d_Ck_isWellFormed_21 : decode b_Ck_isWellFormed 21 = .ok (.invokevirtual 28, 3) := by decide +kernel
theorem d_Ck_isWellFormed_24 : decode b_Ck_isWellFormed 24 = .ok (.ifCond .ne 5, 3) := by decide +kernel
theorem d_Ck_isWellFormed_27 : decode b_Ck_isWellFormed 27 = .ok (.iconst 0, 1) := by decide +kernel
theorem d_Ck_isWellFormed_28 : decode b_Ck_isWellFormed 28 = .ok (.ireturn, 1) := by decide +kernel
theorem d_Ck_isWellFormed_29 : decode b_Ck_isWellFormed 29 = .ok (.iinc 2 1, 3) := by decide +kernel
theorem d_Ck_isWellFormed_32 : decode b_Ck_isWellFormed 32 = .ok (.goto (-25), 3) := by decide +kernel
theorem d_Ck_isWellFormed_35 : decode b_Ck_isWellFormed 35 = .ok (.aload_n 0, 1) := by decide +kernel
theorem d_Ck_isWellFormed_36 : decode b_Ck_isWellFormed 36 = .ok (.getfield 15, 3) := by decide +kernel
theorem d_Ck_isWellFormed_39 : decode b_Ck_isWellFormed 39 = .ok (.ifCond .ne 7, 3) := by decide +kernel
theorem d_Ck_isWellFormed_42 : decode b_Ck_isWellFormed 42 = .ok (.iconst 1, 1) := by decide +kernel
theorem d_Ck_isWellFormed_43 : decode b_Ck_isWellFormed 43 = .ok (.goto 4, 3) := by decide +kernel
theorem d_Ck_isWellFormed_46 : decode b_Ck_isWellFormed 46 = .ok (.iconst 0, 1) := by decide +kernel
theorem d_Ck_isWellFormed_47 : decode b_Ck_isWellFormed 47 = .ok (.ireturn, 1) := by decide +kernel
theorem d_Ck_accepts_0 : decode b_Ck_accepts 0 = .ok (.iload_n 1, 1) := by decide +kernel
theorem d_Ck_accepts_1 : decode b_Ck_accepts 1 = .ok (.tableswitch 56 3 7 #[35, 41, 46, 35, 51], 35) := by decide +kernel
theorem d_Ck_accepts_36 : decode b_Ck_accepts 36 = .ok (.aload_n 0, 1) := by decide +kernel
