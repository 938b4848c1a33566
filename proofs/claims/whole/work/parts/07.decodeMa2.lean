theorem d_Ty_make_4 : decode b_Ty_make 4 = .ok (.ifCond .eq 5, 3) := by decide +kernel
theorem d_Ty_make_7 : decode b_Ty_make 7 = .ok (.iconst (-1), 1) := by decide +kernel
theorem d_Ty_make_8 : decode b_Ty_make 8 = .ok (.ireturn, 1) := by decide +kernel
theorem d_Ty_make_9 : decode b_Ty_make 9 = .ok (.aload_n 0, 1) := by decide +kernel
theorem d_Ty_make_10 : decode b_Ty_make 10 = .ok (.getfield 15, 3) := by decide +kernel
theorem d_Ty_make_13 : decode b_Ty_make 13 = .ok (.istore_n 2, 1) := by decide +kernel
theorem d_Ty_make_14 : decode b_Ty_make 14 = .ok (.aload_n 0, 1) := by decide +kernel
theorem d_Ty_make_15 : decode b_Ty_make 15 = .ok (.getfield 9, 3) := by decide +kernel
theorem d_Ty_make_18 : decode b_Ty_make 18 = .ok (.iload_n 2, 1) := by decide +kernel
theorem d_Ty_make_19 : decode b_Ty_make 19 = .ok (.iload_n 1, 1) := by decide +kernel
theorem d_Ty_make_20 : decode b_Ty_make 20 = .ok (.iastore, 1) := by decide +kernel
theorem d_Ty_make_21 : decode b_Ty_make 21 = .ok (.aload_n 0, 1) := by decide +kernel
theorem d_Ty_make_22 : decode b_Ty_make 22 = .ok (.dup, 1) := by decide +kernel
theorem d_Ty_make_23 : decode b_Ty_make 23 = .ok (.getfield 15, 3) := by decide +kernel
theorem d_Ty_make_26 : decode b_Ty_make 26 = .ok (.iconst 1, 1) := by decide +kernel
theorem d_Ty_make_27 : decode b_Ty_make 27 = .ok (.iadd, 1) := by decide +kernel
theorem d_Ty_make_28 : decode b_Ty_make 28 = .ok (.putfield 15, 3) := by decide +kernel
theorem d_Ty_make_31 : decode b_Ty_make 31 = .ok (.iload_n 2, 1) := by decide +kernel
theorem d_Ty_make_32 : decode b_Ty_make 32 = .ok (.ireturn, 1) := by decide +kernel
theorem d_Ty_isAnother_0 : decode b_Ty_isAnother 0 = .ok (.iload_n 1, 1) := by decide +kernel
theorem d_Ty_isAnother_1 : decode b_Ty_isAnother 1 = .ok (.istore_n 3, 1) := by decide +kernel
theorem d_Ty_isAnother_2 : decode b_Ty_isAnother 2 = .ok (.iconst 0, 1) := by decide +kernel
theorem d_Ty_isAnother_3 : decode b_Ty_isAnother 3 = .ok (.istore 4, 2) := by decide +kernel
theorem d_Ty_isAnother_5 : decode b_Ty_isAnother 5 = .ok (.iload 4, 2) := by decide +kernel
theorem d_Ty_isAnother_7 : decode b_Ty_isAnother 7 = .ok (.bipush 8, 2) := by decide +kernel
theorem d_Ty_isAnother_9 : decode b_Ty_isAnother 9 = .ok (.if_icmp .ge 31, 3) := by decide +kernel
theorem d_Ty_isAnother_12 : decode b_Ty_isAnother 12 = .ok (.aload_n 0, 1) := by decide +kernel
theorem d_Ty_isAnother_13 : decode b_Ty_isAnother 13 = .ok (.iload_n 3, 1) := by decide +kernel
theorem d_Ty_isAnother_14 : decode b_Ty_isAnother 14 = .ok (.invokevirtual 23, 3) := by decide +kernel
theorem d_Ty_isAnother_17 : decode b_Ty_isAnother 17 = .ok (.ifCond .eq 23, 3) := by decide +kernel
theorem d_Ty_isAnother_20 : decode b_Ty_isAnother 20 = .ok (.iload_n 3, 1) := by decide +kernel
theorem d_Ty_isAnother_21 : decode b_Ty_isAnother 21 = .ok (.iload_n 2, 1) := by decide +kernel
theorem d_Ty_isAnother_22 : decode b_Ty_isAnother 22 = .ok (.if_icmp .ne 5, 3) := by decide +kernel
theorem d_Ty_isAnother_25 : decode b_Ty_isAnother 25 = .ok (.iconst 1, 1) := by decide +kernel
theorem d_Ty_isAnother_26 : decode b_Ty_isAnother 26 = .ok (.ireturn, 1) := by decide +kernel
theorem d_Ty_isAnother_27 : decode b_Ty_isAnother 27 = .ok (.aload_n 0, 1) := by decide +kernel
theorem d_Ty_isAnother_28 : decode b_Ty_isAnother 28 = .ok (.getfield 9, 3) := by decide +kernel
theorem d_Ty_isAnother_31 : decode b_Ty_isAnother 31 = .ok (.iload_n 3, 1) := by decide +kernel
theorem d_Ty_isAnother_32 : decode b_Ty_isAnother 32 = .ok (.iaload, 1) := by decide +kernel
theorem d_Ty_isAnother_33 : decode b_Ty_isAnother 33 = .ok (.istore_n 3, 1) := by decide +kernel
theorem d_Ty_isAnother_34 : decode b_Ty_isAnother 34 = .ok (.iinc 4 1, 3) := by decide +kernel
theorem d_Ty_isAnother_37 : decode b_Ty_isAnother 37 = .ok (.goto (-32), 3) := by decide +kernel
theorem d_Ty_isAnother_40 : decode b_Ty_isAnother 40 = .ok (.iconst 0, 1) := by decide +kernel
theorem d_Ty_isAnother_41 : decode b_Ty_isAnother 41 = .ok (.ireturn, 1) := by decide +kernel
