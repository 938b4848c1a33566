theorem d_Ck_accepts_37 : decode b_Ck_accepts 37 = .ok (.iload_n 1, 1) := by decide +kernel
theorem d_Ck_accepts_38 : decode b_Ck_accepts 38 = .ok (.invokevirtual 32, 3) := by decide +kernel
theorem d_Ck_accepts_41 : decode b_Ck_accepts 41 = .ok (.ireturn, 1) := by decide +kernel
theorem d_Ck_accepts_42 : decode b_Ck_accepts 42 = .ok (.aload_n 0, 1) := by decide +kernel
theorem d_Ck_accepts_43 : decode b_Ck_accepts 43 = .ok (.invokevirtual 35, 3) := by decide +kernel
theorem d_Ck_accepts_46 : decode b_Ck_accepts 46 = .ok (.ireturn, 1) := by decide +kernel
theorem d_Ck_accepts_47 : decode b_Ck_accepts 47 = .ok (.aload_n 0, 1) := by decide +kernel
theorem d_Ck_accepts_48 : decode b_Ck_accepts 48 = .ok (.invokevirtual 39, 3) := by decide +kernel
theorem d_Ck_accepts_51 : decode b_Ck_accepts 51 = .ok (.ireturn, 1) := by decide +kernel
theorem d_Ck_accepts_52 : decode b_Ck_accepts 52 = .ok (.aload_n 0, 1) := by decide +kernel
theorem d_Ck_accepts_53 : decode b_Ck_accepts 53 = .ok (.invokevirtual 42, 3) := by decide +kernel
theorem d_Ck_accepts_56 : decode b_Ck_accepts 56 = .ok (.ireturn, 1) := by decide +kernel
theorem d_Ck_accepts_57 : decode b_Ck_accepts 57 = .ok (.iconst 1, 1) := by decide +kernel
theorem d_Ck_accepts_58 : decode b_Ck_accepts 58 = .ok (.ireturn, 1) := by decide +kernel
theorem d_Ck_opensRow_0 : decode b_Ck_opensRow 0 = .ok (.aload_n 0, 1) := by decide +kernel
theorem d_Ck_opensRow_1 : decode b_Ck_opensRow 1 = .ok (.getfield 15, 3) := by decide +kernel
theorem d_Ck_opensRow_4 : decode b_Ck_opensRow 4 = .ok (.iconst 5, 1) := by decide +kernel
theorem d_Ck_opensRow_5 : decode b_Ck_opensRow 5 = .ok (.if_icmp .lt 5, 3) := by decide +kernel
theorem d_Ck_opensRow_8 : decode b_Ck_opensRow 8 = .ok (.iconst 0, 1) := by decide +kernel
theorem d_Ck_opensRow_9 : decode b_Ck_opensRow 9 = .ok (.ireturn, 1) := by decide +kernel
theorem d_Ck_opensRow_10 : decode b_Ck_opensRow 10 = .ok (.aload_n 0, 1) := by decide +kernel
theorem d_Ck_opensRow_11 : decode b_Ck_opensRow 11 = .ok (.getfield 9, 3) := by decide +kernel
theorem d_Ck_opensRow_14 : decode b_Ck_opensRow 14 = .ok (.aload_n 0, 1) := by decide +kernel
theorem d_Ck_opensRow_15 : decode b_Ck_opensRow 15 = .ok (.getfield 15, 3) := by decide +kernel
theorem d_Ck_opensRow_18 : decode b_Ck_opensRow 18 = .ok (.iload_n 1, 1) := by decide +kernel
theorem d_Ck_opensRow_19 : decode b_Ck_opensRow 19 = .ok (.iastore, 1) := by decide +kernel
theorem d_Ck_opensRow_20 : decode b_Ck_opensRow 20 = .ok (.aload_n 0, 1) := by decide +kernel
theorem d_Ck_opensRow_21 : decode b_Ck_opensRow 21 = .ok (.dup, 1) := by decide +kernel
theorem d_Ck_opensRow_22 : decode b_Ck_opensRow 22 = .ok (.getfield 15, 3) := by decide +kernel
theorem d_Ck_opensRow_25 : decode b_Ck_opensRow 25 = .ok (.iconst 1, 1) := by decide +kernel
theorem d_Ck_opensRow_26 : decode b_Ck_opensRow 26 = .ok (.iadd, 1) := by decide +kernel
theorem d_Ck_opensRow_27 : decode b_Ck_opensRow 27 = .ok (.putfield 15, 3) := by decide +kernel
theorem d_Ck_opensRow_30 : decode b_Ck_opensRow 30 = .ok (.iconst 1, 1) := by decide +kernel
theorem d_Ck_opensRow_31 : decode b_Ck_opensRow 31 = .ok (.ireturn, 1) := by decide +kernel
theorem d_Ck_turnsToCatch_0 : decode b_Ck_turnsToCatch 0 = .ok (.aload_n 0, 1) := by decide +kernel
theorem d_Ck_turnsToCatch_1 : decode b_Ck_turnsToCatch 1 = .ok (.getfield 15, 3) := by decide +kernel
theorem d_Ck_turnsToCatch_4 : decode b_Ck_turnsToCatch 4 = .ok (.iconst 1, 1) := by decide +kernel
theorem d_Ck_turnsToCatch_5 : decode b_Ck_turnsToCatch 5 = .ok (.if_icmp .lt 19, 3) := by decide +kernel
theorem d_Ck_turnsToCatch_8 : decode b_Ck_turnsToCatch 8 = .ok (.aload_n 0, 1) := by decide +kernel
theorem d_Ck_turnsToCatch_9 : decode b_Ck_turnsToCatch 9 = .ok (.getfield 9, 3) := by decide +kernel
theorem d_Ck_turnsToCatch_12 : decode b_Ck_turnsToCatch 12 = .ok (.aload_n 0, 1) := by decide +kernel
theorem d_Ck_turnsToCatch_13 : decode b_Ck_turnsToCatch 13 = .ok (.getfield 15, 3) := by decide +kernel
theorem d_Ck_turnsToCatch_16 : decode b_Ck_turnsToCatch 16 = .ok (.iconst 1, 1) := by decide +kernel
theorem d_Ck_turnsToCatch_17 : decode b_Ck_turnsToCatch 17 = .ok (.isub, 1) := by decide +kernel
theorem d_Ck_turnsToCatch_18 : decode b_Ck_turnsToCatch 18 = .ok (.iaload, 1) := by decide +kernel
theorem d_Ck_turnsToCatch_19 : decode b_Ck_turnsToCatch 19 = .ok (.bipush 6, 2) := by decide +kernel
theorem d_Ck_turnsToCatch_21 : decode b_Ck_turnsToCatch 21 = .ok (.if_icmp .ne 5, 3) := by decide +kernel
theorem d_Ck_turnsToCatch_24 : decode b_Ck_turnsToCatch 24 = .ok (.iconst 0, 1) := by decide +kernel
theorem d_Ck_turnsToCatch_25 : decode b_Ck_turnsToCatch 25 = .ok (.ireturn, 1) := by decide +kernel
theorem d_Ck_turnsToCatch_26 : decode b_Ck_turnsToCatch 26 = .ok (.aload_n 0, 1) := by decide +kernel
theorem d_Ck_turnsToCatch_27 : decode b_Ck_turnsToCatch 27 = .ok (.getfield 9, 3) := by decide +kernel
theorem d_Ck_turnsToCatch_30 : decode b_Ck_turnsToCatch 30 = .ok (.aload_n 0, 1) := by decide +kernel
theorem d_Ck_turnsToCatch_31 : decode b_Ck_turnsToCatch 31 = .ok (.getfield 15, 3) := by decide +kernel
theorem d_Ck_turnsToCatch_34 : decode b_Ck_turnsToCatch 34 = .ok (.iconst 1, 1) := by decide +kernel
theorem d_Ck_turnsToCatch_35 : decode b_Ck_turnsToCatch 35 = .ok (.isub, 1) := by decide +kernel
theorem d_Ck_turnsToCatch_36 : decode b_Ck_turnsToCatch 36 = .ok (.iconst 4, 1) := by decide +kernel
theorem d_Ck_turnsToCatch_37 : decode b_Ck_turnsToCatch 37 = .ok (.iastore, 1) := by decide +kernel
theorem d_Ck_turnsToCatch_38 : decode b_Ck_turnsToCatch 38 = .ok (.iconst 1, 1) := by decide +kernel
theorem d_Ck_turnsToCatch_39 : decode b_Ck_turnsToCatch 39 = .ok (.ireturn, 1) := by decide +kernel
theorem d_Ck_closesRow_0 : decode b_Ck_closesRow 0 = .ok (.aload_n 0, 1) := by decide +kernel
theorem d_Ck_closesRow_1 : decode b_Ck_closesRow 1 = .ok (.getfield 15, 3) := by decide +kernel
theorem d_Ck_closesRow_4 : decode b_Ck_closesRow 4 = .ok (.iconst 1, 1) := by decide +kernel
theorem d_Ck_closesRow_5 : decode b_Ck_closesRow 5 = .ok (.if_icmp .lt 18, 3) := by decide +kernel
theorem d_Ck_closesRow_8 : decode b_Ck_closesRow 8 = .ok (.aload_n 0, 1) := by decide +kernel
theorem d_Ck_closesRow_9 : decode b_Ck_closesRow 9 = .ok (.getfield 9, 3) := by decide +kernel
theorem d_Ck_closesRow_12 : decode b_Ck_closesRow 12 = .ok (.aload_n 0, 1) := by decide +kernel
theorem d_Ck_closesRow_13 : decode b_Ck_closesRow 13 = .ok (.getfield 15, 3) := by decide +kernel
theorem d_Ck_closesRow_16 : decode b_Ck_closesRow 16 = .ok (.iconst 1, 1) := by decide +kernel
theorem d_Ck_closesRow_17 : decode b_Ck_closesRow 17 = .ok (.isub, 1) := by decide +kernel
theorem d_Ck_closesRow_18 : decode b_Ck_closesRow 18 = .ok (.iaload, 1) := by decide +kernel
theorem d_Ck_closesRow_19 : decode b_Ck_closesRow 19 = .ok (.iconst 3, 1) := by decide +kernel
theorem d_Ck_closesRow_20 : decode b_Ck_closesRow 20 = .ok (.if_icmp .ne 5, 3) := by decide +kernel
theorem d_Ck_closesRow_23 : decode b_Ck_closesRow 23 = .ok (.iconst 0, 1) := by decide +kernel
theorem d_Ck_closesRow_24 : decode b_Ck_closesRow 24 = .ok (.ireturn, 1) := by decide +kernel
theorem d_Ck_closesRow_25 : decode b_Ck_closesRow 25 = .ok (.aload_n 0, 1) := by decide +kernel
theorem d_Ck_closesRow_26 : decode b_Ck_closesRow 26 = .ok (.dup, 1) := by decide +kernel
theorem d_Ck_closesRow_27 : decode b_Ck_closesRow 27 = .ok (.getfield 15, 3) := by decide +kernel
theorem d_Ck_closesRow_30 : decode b_Ck_closesRow 30 = .ok (.iconst 1, 1) := by decide +kernel
theorem d_Ck_closesRow_31 : decode b_Ck_closesRow 31 = .ok (.isub, 1) := by decide +kernel
theorem d_Ck_closesRow_32 : decode b_Ck_closesRow 32 = .ok (.putfield 15, 3) := by decide +kernel
theorem d_Ck_closesRow_35 : decode b_Ck_closesRow 35 = .ok (.iconst 1, 1) := by decide +kernel
theorem d_Ck_closesRow_36 : decode b_Ck_closesRow 36 = .ok (.ireturn, 1) := by decide +kernel
theorem d_Ck_isInCatch_0 : decode b_Ck_isInCatch 0 = .ok (.iconst 0, 1) := by decide +kernel
theorem d_Ck_isInCatch_1 : decode b_Ck_isInCatch 1 = .ok (.istore_n 1, 1) := by decide +kernel
theorem d_Ck_isInCatch_2 : decode b_Ck_isInCatch 2 = .ok (.iload_n 1, 1) := by decide +kernel
theorem d_Ck_isInCatch_3 : decode b_Ck_isInCatch 3 = .ok (.aload_n 0, 1) := by decide +kernel
theorem d_Ck_isInCatch_4 : decode b_Ck_isInCatch 4 = .ok (.getfield 15, 3) := by decide +kernel
theorem d_Ck_isInCatch_7 : decode b_Ck_isInCatch 7 = .ok (.if_icmp .ge 21, 3) := by decide +kernel
theorem d_Ck_isInCatch_10 : decode b_Ck_isInCatch 10 = .ok (.aload_n 0, 1) := by decide +kernel
theorem d_Ck_isInCatch_11 : decode b_Ck_isInCatch 11 = .ok (.getfield 9, 3) := by decide +kernel
theorem d_Ck_isInCatch_14 : decode b_Ck_isInCatch 14 = .ok (.iload_n 1, 1) := by decide +kernel
theorem d_Ck_isInCatch_15 : decode b_Ck_isInCatch 15 = .ok (.iaload, 1) := by decide +kernel
theorem d_Ck_isInCatch_16 : decode b_Ck_isInCatch 16 = .ok (.iconst 4, 1) := by decide +kernel
theorem d_Ck_isInCatch_17 : decode b_Ck_isInCatch 17 = .ok (.if_icmp .ne 5, 3) := by decide +kernel
theorem d_Ck_isInCatch_20 : decode b_Ck_isInCatch 20 = .ok (.iconst 1, 1) := by decide +kernel
theorem d_Ck_isInCatch_21 : decode b_Ck_isInCatch 21 = .ok (.ireturn, 1) := by decide +kernel
theorem d_Ck_isInCatch_22 : decode b_Ck_isInCatch 22 = .ok (.iinc 1 1, 3) := by decide +kernel
theorem d_Ck_isInCatch_25 : decode b_Ck_isInCatch 25 = .ok (.goto (-23), 3) := by decide +kernel
theorem d_Ck_isInCatch_28 : decode b_Ck_isInCatch 28 = .ok (.iconst 0, 1) := by decide +kernel
theorem d_Ck_isInCatch_29 : decode b_Ck_isInCatch 29 = .ok (.ireturn, 1) := by decide +kernel
theorem d_Co_init_0 : decode b_Co_init 0 = .ok (.aload_n 0, 1) := by decide +kernel
theorem d_Co_init_1 : decode b_Co_init 1 = .ok (.invokespecial 3, 3) := by decide +kernel
theorem d_Co_init_4 : decode b_Co_init 4 = .ok (.aload_n 0, 1) := by decide +kernel
theorem d_Co_init_5 : decode b_Co_init 5 = .ok (.iconst 5, 1) := by decide +kernel
theorem d_Co_init_6 : decode b_Co_init 6 = .ok (.anewarray 9, 3) := by decide +kernel
theorem d_Co_init_9 : decode b_Co_init 9 = .ok (.putfield 11, 3) := by decide +kernel
theorem d_Co_init_12 : decode b_Co_init 12 = .ok (.iconst 0, 1) := by decide +kernel
theorem d_Co_init_13 : decode b_Co_init 13 = .ok (.istore_n 1, 1) := by decide +kernel
theorem d_Co_init_14 : decode b_Co_init 14 = .ok (.iload_n 1, 1) := by decide +kernel
theorem d_Co_init_15 : decode b_Co_init 15 = .ok (.iconst 5, 1) := by decide +kernel
theorem d_Co_init_16 : decode b_Co_init 16 = .ok (.if_icmp .ge 22, 3) := by decide +kernel
theorem d_Co_init_19 : decode b_Co_init 19 = .ok (.aload_n 0, 1) := by decide +kernel
theorem d_Co_init_20 : decode b_Co_init 20 = .ok (.getfield 11, 3) := by decide +kernel
theorem d_Co_init_23 : decode b_Co_init 23 = .ok (.iload_n 1, 1) := by decide +kernel
theorem d_Co_init_24 : decode b_Co_init 24 = .ok (.new 9, 3) := by decide +kernel
theorem d_Co_init_27 : decode b_Co_init 27 = .ok (.dup, 1) := by decide +kernel
theorem d_Co_init_28 : decode b_Co_init 28 = .ok (.invokespecial 17, 3) := by decide +kernel
theorem d_Co_init_31 : decode b_Co_init 31 = .ok (.aastore, 1) := by decide +kernel
theorem d_Co_init_32 : decode b_Co_init 32 = .ok (.iinc 1 1, 3) := by decide +kernel
theorem d_Co_init_35 : decode b_Co_init 35 = .ok (.goto (-21), 3) := by decide +kernel
theorem d_Co_init_38 : decode b_Co_init 38 = .ok (.return_, 1) := by decide +kernel
theorem d_Co_translate_0 : decode b_Co_translate 0 = .ok (.aload_n 2, 1) := by decide +kernel
theorem d_Co_translate_1 : decode b_Co_translate 1 = .ok (.invokevirtual 18, 3) := by decide +kernel
theorem d_Co_translate_4 : decode b_Co_translate 4 = .ok (.aload_n 0, 1) := by decide +kernel
theorem d_Co_translate_5 : decode b_Co_translate 5 = .ok (.iconst 0, 1) := by decide +kernel
theorem d_Co_translate_6 : decode b_Co_translate 6 = .ok (.putfield 23, 3) := by decide +kernel
theorem d_Co_translate_9 : decode b_Co_translate 9 = .ok (.iconst 0, 1) := by decide +kernel
theorem d_Co_translate_10 : decode b_Co_translate 10 = .ok (.istore_n 3, 1) := by decide +kernel
theorem d_Co_translate_11 : decode b_Co_translate 11 = .ok (.iload_n 3, 1) := by decide +kernel
theorem d_Co_translate_12 : decode b_Co_translate 12 = .ok (.aload_n 1, 1) := by decide +kernel
theorem d_Co_translate_13 : decode b_Co_translate 13 = .ok (.getfield 27, 3) := by decide +kernel
theorem d_Co_translate_16 : decode b_Co_translate 16 = .ok (.if_icmp .ge 16, 3) := by decide +kernel
theorem d_Co_translate_19 : decode b_Co_translate 19 = .ok (.aload_n 0, 1) := by decide +kernel
theorem d_Co_translate_20 : decode b_Co_translate 20 = .ok (.aload_n 1, 1) := by decide +kernel
theorem d_Co_translate_21 : decode b_Co_translate 21 = .ok (.iload_n 3, 1) := by decide +kernel
theorem d_Co_translate_22 : decode b_Co_translate 22 = .ok (.aload_n 2, 1) := by decide +kernel
theorem d_Co_translate_23 : decode b_Co_translate 23 = .ok (.invokevirtual 32, 3) := by decide +kernel
theorem d_Co_translate_26 : decode b_Co_translate 26 = .ok (.iinc 3 1, 3) := by decide +kernel
theorem d_Co_translate_29 : decode b_Co_translate 29 = .ok (.goto (-18), 3) := by decide +kernel
theorem d_Co_translate_32 : decode b_Co_translate 32 = .ok (.aload_n 2, 1) := by decide +kernel
theorem d_Co_translate_33 : decode b_Co_translate 33 = .ok (.bipush 8, 2) := by decide +kernel
theorem d_Co_translate_35 : decode b_Co_translate 35 = .ok (.iconst 0, 1) := by decide +kernel
theorem d_Co_translate_36 : decode b_Co_translate 36 = .ok (.invokevirtual 36, 3) := by decide +kernel
theorem d_Co_translate_39 : decode b_Co_translate 39 = .ok (.return_, 1) := by decide +kernel
theorem d_Co_translateStatement_0 : decode b_Co_translateStatement 0 = .ok (.aload_n 1, 1) := by decide +kernel
theorem d_Co_translateStatement_1 : decode b_Co_translateStatement 1 = .ok (.iload_n 2, 1) := by decide +kernel
theorem d_Co_translateStatement_2 : decode b_Co_translateStatement 2 = .ok (.invokevirtual 40, 3) := by decide +kernel
theorem d_Co_translateStatement_5 : decode b_Co_translateStatement 5 = .ok (.istore 4, 2) := by decide +kernel
theorem d_Co_translateStatement_7 : decode b_Co_translateStatement 7 = .ok (.aload_n 1, 1) := by decide +kernel
theorem d_Co_translateStatement_8 : decode b_Co_translateStatement 8 = .ok (.iload_n 2, 1) := by decide +kernel
theorem d_Co_translateStatement_9 : decode b_Co_translateStatement 9 = .ok (.invokevirtual 44, 3) := by decide +kernel
theorem d_Co_translateStatement_12 : decode b_Co_translateStatement 12 = .ok (.tableswitch 152 0 7 #[48, 58, 72, 120, 136, 144, 99, 86], 48) := by decide +kernel
theorem d_Co_translateStatement_60 : decode b_Co_translateStatement 60 = .ok (.aload_n 3, 1) := by decide +kernel
theorem d_Co_translateStatement_61 : decode b_Co_translateStatement 61 = .ok (.iconst 0, 1) := by decide +kernel
theorem d_Co_translateStatement_62 : decode b_Co_translateStatement 62 = .ok (.iload 4, 2) := by decide +kernel
theorem d_Co_translateStatement_64 : decode b_Co_translateStatement 64 = .ok (.invokevirtual 36, 3) := by decide +kernel
theorem d_Co_translateStatement_67 : decode b_Co_translateStatement 67 = .ok (.goto 97, 3) := by decide +kernel
theorem d_Co_translateStatement_70 : decode b_Co_translateStatement 70 = .ok (.aload_n 3, 1) := by decide +kernel
theorem d_Co_translateStatement_71 : decode b_Co_translateStatement 71 = .ok (.iconst 1, 1) := by decide +kernel
theorem d_Co_translateStatement_72 : decode b_Co_translateStatement 72 = .ok (.iload 4, 2) := by decide +kernel
theorem d_Co_translateStatement_74 : decode b_Co_translateStatement 74 = .ok (.aload_n 0, 1) := by decide +kernel
theorem d_Co_translateStatement_75 : decode b_Co_translateStatement 75 = .ok (.invokevirtual 47, 3) := by decide +kernel
theorem d_Co_translateStatement_78 : decode b_Co_translateStatement 78 = .ok (.invokevirtual 51, 3) := by decide +kernel
theorem d_Co_translateStatement_81 : decode b_Co_translateStatement 81 = .ok (.goto 83, 3) := by decide +kernel
theorem d_Co_translateStatement_84 : decode b_Co_translateStatement 84 = .ok (.aload_n 3, 1) := by decide +kernel
theorem d_Co_translateStatement_85 : decode b_Co_translateStatement 85 = .ok (.iconst 2, 1) := by decide +kernel
theorem d_Co_translateStatement_86 : decode b_Co_translateStatement 86 = .ok (.iload 4, 2) := by decide +kernel
theorem d_Co_translateStatement_88 : decode b_Co_translateStatement 88 = .ok (.aload_n 0, 1) := by decide +kernel
theorem d_Co_translateStatement_89 : decode b_Co_translateStatement 89 = .ok (.invokevirtual 47, 3) := by decide +kernel
theorem d_Co_translateStatement_92 : decode b_Co_translateStatement 92 = .ok (.invokevirtual 51, 3) := by decide +kernel
theorem d_Co_translateStatement_95 : decode b_Co_translateStatement 95 = .ok (.goto 69, 3) := by decide +kernel
theorem d_Co_translateStatement_98 : decode b_Co_translateStatement 98 = .ok (.aload_n 3, 1) := by decide +kernel
theorem d_Co_translateStatement_99 : decode b_Co_translateStatement 99 = .ok (.iconst 3, 1) := by decide +kernel
theorem d_Co_translateStatement_100 : decode b_Co_translateStatement 100 = .ok (.iconst 0, 1) := by decide +kernel
theorem d_Co_translateStatement_101 : decode b_Co_translateStatement 101 = .ok (.aload_n 0, 1) := by decide +kernel
theorem d_Co_translateStatement_102 : decode b_Co_translateStatement 102 = .ok (.invokevirtual 47, 3) := by decide +kernel
theorem d_Co_translateStatement_105 : decode b_Co_translateStatement 105 = .ok (.invokevirtual 51, 3) := by decide +kernel
theorem d_Co_translateStatement_108 : decode b_Co_translateStatement 108 = .ok (.goto 56, 3) := by decide +kernel
theorem d_Co_translateStatement_111 : decode b_Co_translateStatement 111 = .ok (.aload_n 0, 1) := by decide +kernel
theorem d_Co_translateStatement_112 : decode b_Co_translateStatement 112 = .ok (.bipush 6, 2) := by decide +kernel
theorem d_Co_translateStatement_114 : decode b_Co_translateStatement 114 = .ok (.iload 4, 2) := by decide +kernel
theorem d_Co_translateStatement_116 : decode b_Co_translateStatement 116 = .ok (.aload_n 3, 1) := by decide +kernel
theorem d_Co_translateStatement_117 : decode b_Co_translateStatement 117 = .ok (.bipush (-2), 2) := by decide +kernel
theorem d_Co_translateStatement_119 : decode b_Co_translateStatement 119 = .ok (.aload_n 0, 1) := by decide +kernel
theorem d_Co_translateStatement_120 : decode b_Co_translateStatement 120 = .ok (.invokevirtual 47, 3) := by decide +kernel
theorem d_Co_translateStatement_123 : decode b_Co_translateStatement 123 = .ok (.invokevirtual 55, 3) := by decide +kernel
theorem d_Co_translateStatement_126 : decode b_Co_translateStatement 126 = .ok (.invokevirtual 59, 3) := by decide +kernel
theorem d_Co_translateStatement_129 : decode b_Co_translateStatement 129 = .ok (.goto 35, 3) := by decide +kernel
theorem d_Co_translateStatement_132 : decode b_Co_translateStatement 132 = .ok (.aload_n 0, 1) := by decide +kernel
theorem d_Co_translateStatement_133 : decode b_Co_translateStatement 133 = .ok (.iconst 3, 1) := by decide +kernel
theorem d_Co_translateStatement_134 : decode b_Co_translateStatement 134 = .ok (.iconst 0, 1) := by decide +kernel
theorem d_Co_translateStatement_135 : decode b_Co_translateStatement 135 = .ok (.aload_n 0, 1) := by decide +kernel
theorem d_Co_translateStatement_136 : decode b_Co_translateStatement 136 = .ok (.aload_n 1, 1) := by decide +kernel
theorem d_Co_translateStatement_137 : decode b_Co_translateStatement 137 = .ok (.iload_n 2, 1) := by decide +kernel
theorem d_Co_translateStatement_138 : decode b_Co_translateStatement 138 = .ok (.aload_n 3, 1) := by decide +kernel
theorem d_Co_translateStatement_139 : decode b_Co_translateStatement 139 = .ok (.invokevirtual 62, 3) := by decide +kernel
theorem d_Co_translateStatement_142 : decode b_Co_translateStatement 142 = .ok (.invokevirtual 59, 3) := by decide +kernel
theorem d_Co_translateStatement_145 : decode b_Co_translateStatement 145 = .ok (.goto 19, 3) := by decide +kernel
theorem d_Co_translateStatement_148 : decode b_Co_translateStatement 148 = .ok (.aload_n 0, 1) := by decide +kernel
theorem d_Co_translateStatement_149 : decode b_Co_translateStatement 149 = .ok (.aload_n 3, 1) := by decide +kernel
theorem d_Co_translateStatement_150 : decode b_Co_translateStatement 150 = .ok (.invokevirtual 66, 3) := by decide +kernel
theorem d_Co_translateStatement_153 : decode b_Co_translateStatement 153 = .ok (.goto 11, 3) := by decide +kernel
theorem d_Co_translateStatement_156 : decode b_Co_translateStatement 156 = .ok (.aload_n 0, 1) := by decide +kernel
theorem d_Co_translateStatement_157 : decode b_Co_translateStatement 157 = .ok (.aload_n 3, 1) := by decide +kernel
theorem d_Co_translateStatement_158 : decode b_Co_translateStatement 158 = .ok (.invokevirtual 70, 3) := by decide +kernel
theorem d_Co_translateStatement_161 : decode b_Co_translateStatement 161 = .ok (.goto 3, 3) := by decide +kernel
theorem d_Co_translateStatement_164 : decode b_Co_translateStatement 164 = .ok (.return_, 1) := by decide +kernel
theorem d_Co_currentHead_0 : decode b_Co_currentHead 0 = .ok (.aload_n 0, 1) := by decide +kernel
theorem d_Co_currentHead_1 : decode b_Co_currentHead 1 = .ok (.getfield 23, 3) := by decide +kernel
theorem d_Co_currentHead_4 : decode b_Co_currentHead 4 = .ok (.ifCond .le 20, 3) := by decide +kernel
theorem d_Co_currentHead_7 : decode b_Co_currentHead 7 = .ok (.aload_n 0, 1) := by decide +kernel
theorem d_Co_currentHead_8 : decode b_Co_currentHead 8 = .ok (.getfield 11, 3) := by decide +kernel
theorem d_Co_currentHead_11 : decode b_Co_currentHead 11 = .ok (.aload_n 0, 1) := by decide +kernel
theorem d_Co_currentHead_12 : decode b_Co_currentHead 12 = .ok (.getfield 23, 3) := by decide +kernel
theorem d_Co_currentHead_15 : decode b_Co_currentHead 15 = .ok (.iconst 1, 1) := by decide +kernel
theorem d_Co_currentHead_16 : decode b_Co_currentHead 16 = .ok (.isub, 1) := by decide +kernel
theorem d_Co_currentHead_17 : decode b_Co_currentHead 17 = .ok (.aaload, 1) := by decide +kernel
theorem d_Co_currentHead_18 : decode b_Co_currentHead 18 = .ok (.getfield 73, 3) := by decide +kernel
theorem d_Co_currentHead_21 : decode b_Co_currentHead 21 = .ok (.goto 4, 3) := by decide +kernel
theorem d_Co_currentHead_24 : decode b_Co_currentHead 24 = .ok (.iconst (-1), 1) := by decide +kernel
theorem d_Co_currentHead_25 : decode b_Co_currentHead 25 = .ok (.ireturn, 1) := by decide +kernel
theorem d_Co_openBlock_0 : decode b_Co_openBlock 0 = .ok (.aload_n 0, 1) := by decide +kernel
theorem d_Co_openBlock_1 : decode b_Co_openBlock 1 = .ok (.getfield 23, 3) := by decide +kernel
theorem d_Co_openBlock_4 : decode b_Co_openBlock 4 = .ok (.iconst 5, 1) := by decide +kernel
theorem d_Co_openBlock_5 : decode b_Co_openBlock 5 = .ok (.if_icmp .ge 32, 3) := by decide +kernel
theorem d_Co_openBlock_8 : decode b_Co_openBlock 8 = .ok (.aload_n 0, 1) := by decide +kernel
theorem d_Co_openBlock_9 : decode b_Co_openBlock 9 = .ok (.getfield 11, 3) := by decide +kernel
theorem d_Co_openBlock_12 : decode b_Co_openBlock 12 = .ok (.aload_n 0, 1) := by decide +kernel
theorem d_Co_openBlock_13 : decode b_Co_openBlock 13 = .ok (.getfield 23, 3) := by decide +kernel
theorem d_Co_openBlock_16 : decode b_Co_openBlock 16 = .ok (.aaload, 1) := by decide +kernel
theorem d_Co_openBlock_17 : decode b_Co_openBlock 17 = .ok (.iload_n 1, 1) := by decide +kernel
theorem d_Co_openBlock_18 : decode b_Co_openBlock 18 = .ok (.iload_n 2, 1) := by decide +kernel
theorem d_Co_openBlock_19 : decode b_Co_openBlock 19 = .ok (.iload_n 3, 1) := by decide +kernel
theorem d_Co_openBlock_20 : decode b_Co_openBlock 20 = .ok (.aload_n 0, 1) := by decide +kernel
theorem d_Co_openBlock_21 : decode b_Co_openBlock 21 = .ok (.invokevirtual 47, 3) := by decide +kernel
theorem d_Co_openBlock_24 : decode b_Co_openBlock 24 = .ok (.invokevirtual 76, 3) := by decide +kernel
theorem d_Co_openBlock_27 : decode b_Co_openBlock 27 = .ok (.aload_n 0, 1) := by decide +kernel
theorem d_Co_openBlock_28 : decode b_Co_openBlock 28 = .ok (.dup, 1) := by decide +kernel
theorem d_Co_openBlock_29 : decode b_Co_openBlock 29 = .ok (.getfield 23, 3) := by decide +kernel
theorem d_Co_openBlock_32 : decode b_Co_openBlock 32 = .ok (.iconst 1, 1) := by decide +kernel
theorem d_Co_openBlock_33 : decode b_Co_openBlock 33 = .ok (.iadd, 1) := by decide +kernel
theorem d_Co_openBlock_34 : decode b_Co_openBlock 34 = .ok (.putfield 23, 3) := by decide +kernel
theorem d_Co_openBlock_37 : decode b_Co_openBlock 37 = .ok (.return_, 1) := by decide +kernel
theorem d_Co_makeCatchActions_0 : decode b_Co_makeCatchActions 0 = .ok (.aload_n 3, 1) := by decide +kernel
theorem d_Co_makeCatchActions_1 : decode b_Co_makeCatchActions 1 = .ok (.getfield 80, 3) := by decide +kernel
theorem d_Co_makeCatchActions_4 : decode b_Co_makeCatchActions 4 = .ok (.istore 4, 2) := by decide +kernel
theorem d_Co_makeCatchActions_6 : decode b_Co_makeCatchActions 6 = .ok (.iconst 0, 1) := by decide +kernel
theorem d_Co_makeCatchActions_7 : decode b_Co_makeCatchActions 7 = .ok (.istore 5, 2) := by decide +kernel
theorem d_Co_makeCatchActions_9 : decode b_Co_makeCatchActions 9 = .ok (.iload_n 2, 1) := by decide +kernel
theorem d_Co_makeCatchActions_10 : decode b_Co_makeCatchActions 10 = .ok (.iconst 1, 1) := by decide +kernel
theorem d_Co_makeCatchActions_11 : decode b_Co_makeCatchActions 11 = .ok (.iadd, 1) := by decide +kernel
theorem d_Co_makeCatchActions_12 : decode b_Co_makeCatchActions 12 = .ok (.istore 6, 2) := by decide +kernel
theorem d_Co_makeCatchActions_14 : decode b_Co_makeCatchActions 14 = .ok (.iload 6, 2) := by decide +kernel
theorem d_Co_makeCatchActions_16 : decode b_Co_makeCatchActions 16 = .ok (.aload_n 1, 1) := by decide +kernel
theorem d_Co_makeCatchActions_17 : decode b_Co_makeCatchActions 17 = .ok (.getfield 27, 3) := by decide +kernel
theorem d_Co_makeCatchActions_20 : decode b_Co_makeCatchActions 20 = .ok (.if_icmp .ge 81, 3) := by decide +kernel
theorem d_Co_makeCatchActions_23 : decode b_Co_makeCatchActions 23 = .ok (.iload 5, 2) := by decide +kernel
theorem d_Co_makeCatchActions_25 : decode b_Co_makeCatchActions 25 = .ok (.ifCond .lt 76, 3) := by decide +kernel
theorem d_Co_makeCatchActions_28 : decode b_Co_makeCatchActions 28 = .ok (.aload_n 1, 1) := by decide +kernel
theorem d_Co_makeCatchActions_29 : decode b_Co_makeCatchActions 29 = .ok (.iload 6, 2) := by decide +kernel
theorem d_Co_makeCatchActions_31 : decode b_Co_makeCatchActions 31 = .ok (.invokevirtual 44, 3) := by decide +kernel
theorem d_Co_makeCatchActions_34 : decode b_Co_makeCatchActions 34 = .ok (.istore 7, 2) := by decide +kernel
theorem d_Co_makeCatchActions_36 : decode b_Co_makeCatchActions 36 = .ok (.iload 7, 2) := by decide +kernel
theorem d_Co_makeCatchActions_38 : decode b_Co_makeCatchActions 38 = .ok (.bipush 6, 2) := by decide +kernel
theorem d_Co_makeCatchActions_40 : decode b_Co_makeCatchActions 40 = .ok (.if_icmp .eq 9, 3) := by decide +kernel
theorem d_Co_makeCatchActions_43 : decode b_Co_makeCatchActions 43 = .ok (.iload 7, 2) := by decide +kernel
theorem d_Co_makeCatchActions_45 : decode b_Co_makeCatchActions 45 = .ok (.iconst 3, 1) := by decide +kernel
theorem d_Co_makeCatchActions_46 : decode b_Co_makeCatchActions 46 = .ok (.if_icmp .ne 9, 3) := by decide +kernel
theorem d_Co_makeCatchActions_49 : decode b_Co_makeCatchActions 49 = .ok (.iinc 5 1, 3) := by decide +kernel
theorem d_Co_makeCatchActions_52 : decode b_Co_makeCatchActions 52 = .ok (.goto 43, 3) := by decide +kernel
theorem d_Co_makeCatchActions_55 : decode b_Co_makeCatchActions 55 = .ok (.iload 7, 2) := by decide +kernel
theorem d_Co_makeCatchActions_57 : decode b_Co_makeCatchActions 57 = .ok (.iconst 5, 1) := by decide +kernel
theorem d_Co_makeCatchActions_58 : decode b_Co_makeCatchActions 58 = .ok (.if_icmp .ne 9, 3) := by decide +kernel
theorem d_Co_makeCatchActions_61 : decode b_Co_makeCatchActions 61 = .ok (.iinc 5 (-1), 3) := by decide +kernel
theorem d_Co_makeCatchActions_64 : decode b_Co_makeCatchActions 64 = .ok (.goto 31, 3) := by decide +kernel
theorem d_Co_makeCatchActions_67 : decode b_Co_makeCatchActions 67 = .ok (.iload 7, 2) := by decide +kernel
theorem d_Co_makeCatchActions_69 : decode b_Co_makeCatchActions 69 = .ok (.iconst 4, 1) := by decide +kernel
theorem d_Co_makeCatchActions_70 : decode b_Co_makeCatchActions 70 = .ok (.if_icmp .ne 25, 3) := by decide +kernel
theorem d_Co_makeCatchActions_73 : decode b_Co_makeCatchActions 73 = .ok (.iload 5, 2) := by decide +kernel
theorem d_Co_makeCatchActions_75 : decode b_Co_makeCatchActions 75 = .ok (.ifCond .ne 20, 3) := by decide +kernel
theorem d_Co_makeCatchActions_78 : decode b_Co_makeCatchActions 78 = .ok (.aload_n 3, 1) := by decide +kernel
theorem d_Co_makeCatchActions_79 : decode b_Co_makeCatchActions 79 = .ok (.aload_n 1, 1) := by decide +kernel
theorem d_Co_makeCatchActions_80 : decode b_Co_makeCatchActions 80 = .ok (.iload 6, 2) := by decide +kernel
theorem d_Co_makeCatchActions_82 : decode b_Co_makeCatchActions 82 = .ok (.invokevirtual 40, 3) := by decide +kernel
theorem d_Co_makeCatchActions_85 : decode b_Co_makeCatchActions 85 = .ok (.aload_n 3, 1) := by decide +kernel
theorem d_Co_makeCatchActions_86 : decode b_Co_makeCatchActions 86 = .ok (.getfield 80, 3) := by decide +kernel
theorem d_Co_makeCatchActions_89 : decode b_Co_makeCatchActions 89 = .ok (.iconst 1, 1) := by decide +kernel
theorem d_Co_makeCatchActions_90 : decode b_Co_makeCatchActions 90 = .ok (.iadd, 1) := by decide +kernel
theorem d_Co_makeCatchActions_91 : decode b_Co_makeCatchActions 91 = .ok (.invokevirtual 55, 3) := by decide +kernel
theorem d_Co_makeCatchActions_94 : decode b_Co_makeCatchActions 94 = .ok (.pop, 1) := by decide +kernel
theorem d_Co_makeCatchActions_95 : decode b_Co_makeCatchActions 95 = .ok (.iinc 6 1, 3) := by decide +kernel
theorem d_Co_makeCatchActions_98 : decode b_Co_makeCatchActions 98 = .ok (.goto (-84), 3) := by decide +kernel
theorem d_Co_makeCatchActions_101 : decode b_Co_makeCatchActions 101 = .ok (.aload_n 3, 1) := by decide +kernel
theorem d_Co_makeCatchActions_102 : decode b_Co_makeCatchActions 102 = .ok (.aload_n 3, 1) := by decide +kernel
theorem d_Co_makeCatchActions_103 : decode b_Co_makeCatchActions 103 = .ok (.getfield 80, 3) := by decide +kernel
theorem d_Co_makeCatchActions_106 : decode b_Co_makeCatchActions 106 = .ok (.iconst 1, 1) := by decide +kernel
theorem d_Co_makeCatchActions_107 : decode b_Co_makeCatchActions 107 = .ok (.isub, 1) := by decide +kernel
theorem d_Co_makeCatchActions_108 : decode b_Co_makeCatchActions 108 = .ok (.aload_n 0, 1) := by decide +kernel
theorem d_Co_makeCatchActions_109 : decode b_Co_makeCatchActions 109 = .ok (.invokevirtual 47, 3) := by decide +kernel
theorem d_Co_makeCatchActions_112 : decode b_Co_makeCatchActions 112 = .ok (.invokevirtual 83, 3) := by decide +kernel
theorem d_Co_makeCatchActions_115 : decode b_Co_makeCatchActions 115 = .ok (.iload 4, 2) := by decide +kernel
theorem d_Co_makeCatchActions_117 : decode b_Co_makeCatchActions 117 = .ok (.ireturn, 1) := by decide +kernel
theorem d_Co_beginCatch_0 : decode b_Co_beginCatch 0 = .ok (.aload_n 0, 1) := by decide +kernel
theorem d_Co_beginCatch_1 : decode b_Co_beginCatch 1 = .ok (.getfield 23, 3) := by decide +kernel
theorem d_Co_beginCatch_4 : decode b_Co_beginCatch 4 = .ok (.iconst 1, 1) := by decide +kernel
theorem d_Co_beginCatch_5 : decode b_Co_beginCatch 5 = .ok (.if_icmp .ge 4, 3) := by decide +kernel
theorem d_Co_beginCatch_8 : decode b_Co_beginCatch 8 = .ok (.return_, 1) := by decide +kernel
theorem d_Co_beginCatch_9 : decode b_Co_beginCatch 9 = .ok (.aload_n 0, 1) := by decide +kernel
theorem d_Co_beginCatch_10 : decode b_Co_beginCatch 10 = .ok (.getfield 11, 3) := by decide +kernel
theorem d_Co_beginCatch_13 : decode b_Co_beginCatch 13 = .ok (.aload_n 0, 1) := by decide +kernel
theorem d_Co_beginCatch_14 : decode b_Co_beginCatch 14 = .ok (.getfield 23, 3) := by decide +kernel
theorem d_Co_beginCatch_17 : decode b_Co_beginCatch 17 = .ok (.iconst 1, 1) := by decide +kernel
theorem d_Co_beginCatch_18 : decode b_Co_beginCatch 18 = .ok (.isub, 1) := by decide +kernel
theorem d_Co_beginCatch_19 : decode b_Co_beginCatch 19 = .ok (.aaload, 1) := by decide +kernel
theorem d_Co_beginCatch_20 : decode b_Co_beginCatch 20 = .ok (.astore_n 2, 1) := by decide +kernel
theorem d_Co_beginCatch_21 : decode b_Co_beginCatch 21 = .ok (.aload_n 2, 1) := by decide +kernel
theorem d_Co_beginCatch_22 : decode b_Co_beginCatch 22 = .ok (.getfield 86, 3) := by decide +kernel
theorem d_Co_beginCatch_25 : decode b_Co_beginCatch 25 = .ok (.iconst 3, 1) := by decide +kernel
theorem d_Co_beginCatch_26 : decode b_Co_beginCatch 26 = .ok (.if_icmp .ne 12, 3) := by decide +kernel
theorem d_Co_beginCatch_29 : decode b_Co_beginCatch 29 = .ok (.aload_n 0, 1) := by decide +kernel
theorem d_Co_beginCatch_30 : decode b_Co_beginCatch 30 = .ok (.aload_n 2, 1) := by decide +kernel
theorem d_Co_beginCatch_31 : decode b_Co_beginCatch 31 = .ok (.aload_n 1, 1) := by decide +kernel
theorem d_Co_beginCatch_32 : decode b_Co_beginCatch 32 = .ok (.invokevirtual 89, 3) := by decide +kernel
theorem d_Co_beginCatch_35 : decode b_Co_beginCatch 35 = .ok (.goto 9, 3) := by decide +kernel
theorem d_Co_beginCatch_38 : decode b_Co_beginCatch 38 = .ok (.aload_n 0, 1) := by decide +kernel
theorem d_Co_beginCatch_39 : decode b_Co_beginCatch 39 = .ok (.aload_n 2, 1) := by decide +kernel
theorem d_Co_beginCatch_40 : decode b_Co_beginCatch 40 = .ok (.aload_n 1, 1) := by decide +kernel
theorem d_Co_beginCatch_41 : decode b_Co_beginCatch 41 = .ok (.invokevirtual 93, 3) := by decide +kernel
theorem d_Co_beginCatch_44 : decode b_Co_beginCatch 44 = .ok (.aload_n 1, 1) := by decide +kernel
theorem d_Co_beginCatch_45 : decode b_Co_beginCatch 45 = .ok (.aload_n 2, 1) := by decide +kernel
theorem d_Co_beginCatch_46 : decode b_Co_beginCatch 46 = .ok (.getfield 96, 3) := by decide +kernel
theorem d_Co_beginCatch_49 : decode b_Co_beginCatch 49 = .ok (.invokevirtual 99, 3) := by decide +kernel
theorem d_Co_beginCatch_52 : decode b_Co_beginCatch 52 = .ok (.aload_n 2, 1) := by decide +kernel
theorem d_Co_beginCatch_53 : decode b_Co_beginCatch 53 = .ok (.dup, 1) := by decide +kernel
theorem d_Co_beginCatch_54 : decode b_Co_beginCatch 54 = .ok (.getfield 96, 3) := by decide +kernel
theorem d_Co_beginCatch_57 : decode b_Co_beginCatch 57 = .ok (.iconst 1, 1) := by decide +kernel
theorem d_Co_beginCatch_58 : decode b_Co_beginCatch 58 = .ok (.iadd, 1) := by decide +kernel
theorem d_Co_beginCatch_59 : decode b_Co_beginCatch 59 = .ok (.putfield 96, 3) := by decide +kernel
theorem d_Co_beginCatch_62 : decode b_Co_beginCatch 62 = .ok (.aload_n 2, 1) := by decide +kernel
theorem d_Co_beginCatch_63 : decode b_Co_beginCatch 63 = .ok (.iconst 4, 1) := by decide +kernel
theorem d_Co_beginCatch_64 : decode b_Co_beginCatch 64 = .ok (.putfield 86, 3) := by decide +kernel
theorem d_Co_beginCatch_67 : decode b_Co_beginCatch 67 = .ok (.aload_n 2, 1) := by decide +kernel
theorem d_Co_beginCatch_68 : decode b_Co_beginCatch 68 = .ok (.aload_n 1, 1) := by decide +kernel
theorem d_Co_beginCatch_69 : decode b_Co_beginCatch 69 = .ok (.bipush (-2), 2) := by decide +kernel
theorem d_Co_beginCatch_71 : decode b_Co_beginCatch 71 = .ok (.aload_n 2, 1) := by decide +kernel
theorem d_Co_beginCatch_72 : decode b_Co_beginCatch 72 = .ok (.getfield 103, 3) := by decide +kernel
theorem d_Co_beginCatch_75 : decode b_Co_beginCatch 75 = .ok (.invokevirtual 55, 3) := by decide +kernel
theorem d_Co_beginCatch_78 : decode b_Co_beginCatch 78 = .ok (.putfield 73, 3) := by decide +kernel
theorem d_Co_beginCatch_81 : decode b_Co_beginCatch 81 = .ok (.return_, 1) := by decide +kernel
theorem d_Co_emitExit_0 : decode b_Co_emitExit 0 = .ok (.aload_n 1, 1) := by decide +kernel
theorem d_Co_emitExit_1 : decode b_Co_emitExit 1 = .ok (.aload_n 2, 1) := by decide +kernel
theorem d_Co_emitExit_2 : decode b_Co_emitExit 2 = .ok (.getfield 115, 3) := by decide +kernel
theorem d_Co_emitExit_5 : decode b_Co_emitExit 5 = .ok (.invokevirtual 118, 3) := by decide +kernel
theorem d_Co_emitExit_8 : decode b_Co_emitExit 8 = .ok (.aload_n 2, 1) := by decide +kernel
theorem d_Co_emitExit_9 : decode b_Co_emitExit 9 = .ok (.iconst 4, 1) := by decide +kernel
theorem d_Co_emitExit_10 : decode b_Co_emitExit 10 = .ok (.iconst 0, 1) := by decide +kernel
theorem d_Co_emitExit_11 : decode b_Co_emitExit 11 = .ok (.invokevirtual 36, 3) := by decide +kernel
theorem d_Co_emitExit_14 : decode b_Co_emitExit 14 = .ok (.return_, 1) := by decide +kernel
theorem d_Co_finishCatch_0 : decode b_Co_finishCatch 0 = .ok (.aload_n 2, 1) := by decide +kernel
theorem d_Co_finishCatch_1 : decode b_Co_finishCatch 1 = .ok (.bipush 6, 2) := by decide +kernel
theorem d_Co_finishCatch_3 : decode b_Co_finishCatch 3 = .ok (.iconst 0, 1) := by decide +kernel
theorem d_Co_finishCatch_4 : decode b_Co_finishCatch 4 = .ok (.invokevirtual 36, 3) := by decide +kernel
theorem d_Co_finishCatch_7 : decode b_Co_finishCatch 7 = .ok (.aload_n 0, 1) := by decide +kernel
theorem d_Co_finishCatch_8 : decode b_Co_finishCatch 8 = .ok (.aload_n 1, 1) := by decide +kernel
theorem d_Co_finishCatch_9 : decode b_Co_finishCatch 9 = .ok (.aload_n 2, 1) := by decide +kernel
theorem d_Co_finishCatch_10 : decode b_Co_finishCatch 10 = .ok (.invokevirtual 89, 3) := by decide +kernel
theorem d_Co_finishCatch_13 : decode b_Co_finishCatch 13 = .ok (.aload_n 2, 1) := by decide +kernel
theorem d_Co_finishCatch_14 : decode b_Co_finishCatch 14 = .ok (.aload_n 1, 1) := by decide +kernel
theorem d_Co_finishCatch_15 : decode b_Co_finishCatch 15 = .ok (.getfield 73, 3) := by decide +kernel
theorem d_Co_finishCatch_18 : decode b_Co_finishCatch 18 = .ok (.invokevirtual 99, 3) := by decide +kernel
theorem d_Co_finishCatch_21 : decode b_Co_finishCatch 21 = .ok (.aload_n 2, 1) := by decide +kernel
theorem d_Co_finishCatch_22 : decode b_Co_finishCatch 22 = .ok (.bipush 6, 2) := by decide +kernel
theorem d_Co_finishCatch_24 : decode b_Co_finishCatch 24 = .ok (.iconst 0, 1) := by decide +kernel
theorem d_Co_finishCatch_25 : decode b_Co_finishCatch 25 = .ok (.invokevirtual 36, 3) := by decide +kernel
theorem d_Co_finishCatch_28 : decode b_Co_finishCatch 28 = .ok (.aload_n 2, 1) := by decide +kernel
theorem d_Co_finishCatch_29 : decode b_Co_finishCatch 29 = .ok (.bipush 7, 2) := by decide +kernel
theorem d_Co_finishCatch_31 : decode b_Co_finishCatch 31 = .ok (.iconst 0, 1) := by decide +kernel
theorem d_Co_finishCatch_32 : decode b_Co_finishCatch 32 = .ok (.invokevirtual 36, 3) := by decide +kernel
theorem d_Co_finishCatch_35 : decode b_Co_finishCatch 35 = .ok (.return_, 1) := by decide +kernel
theorem d_Co_closeBlock_0 : decode b_Co_closeBlock 0 = .ok (.aload_n 0, 1) := by decide +kernel
theorem d_Co_closeBlock_1 : decode b_Co_closeBlock 1 = .ok (.getfield 23, 3) := by decide +kernel
theorem d_Co_closeBlock_4 : decode b_Co_closeBlock 4 = .ok (.iconst 1, 1) := by decide +kernel
theorem d_Co_closeBlock_5 : decode b_Co_closeBlock 5 = .ok (.if_icmp .ge 4, 3) := by decide +kernel
theorem d_Co_closeBlock_8 : decode b_Co_closeBlock 8 = .ok (.return_, 1) := by decide +kernel
theorem d_Co_closeBlock_9 : decode b_Co_closeBlock 9 = .ok (.aload_n 0, 1) := by decide +kernel
theorem d_Co_closeBlock_10 : decode b_Co_closeBlock 10 = .ok (.getfield 11, 3) := by decide +kernel
theorem d_Co_closeBlock_13 : decode b_Co_closeBlock 13 = .ok (.aload_n 0, 1) := by decide +kernel
theorem d_Co_closeBlock_14 : decode b_Co_closeBlock 14 = .ok (.getfield 23, 3) := by decide +kernel
theorem d_Co_closeBlock_17 : decode b_Co_closeBlock 17 = .ok (.iconst 1, 1) := by decide +kernel
theorem d_Co_closeBlock_18 : decode b_Co_closeBlock 18 = .ok (.isub, 1) := by decide +kernel
theorem d_Co_closeBlock_19 : decode b_Co_closeBlock 19 = .ok (.aaload, 1) := by decide +kernel
theorem d_Co_closeBlock_20 : decode b_Co_closeBlock 20 = .ok (.astore_n 2, 1) := by decide +kernel
theorem d_Co_closeBlock_21 : decode b_Co_closeBlock 21 = .ok (.aload_n 2, 1) := by decide +kernel
theorem d_Co_closeBlock_22 : decode b_Co_closeBlock 22 = .ok (.getfield 86, 3) := by decide +kernel
theorem d_Co_closeBlock_25 : decode b_Co_closeBlock 25 = .ok (.bipush 6, 2) := by decide +kernel
theorem d_Co_closeBlock_27 : decode b_Co_closeBlock 27 = .ok (.if_icmp .ne 12, 3) := by decide +kernel
theorem d_Co_closeBlock_30 : decode b_Co_closeBlock 30 = .ok (.aload_n 0, 1) := by decide +kernel
theorem d_Co_closeBlock_31 : decode b_Co_closeBlock 31 = .ok (.aload_n 2, 1) := by decide +kernel
theorem d_Co_closeBlock_32 : decode b_Co_closeBlock 32 = .ok (.aload_n 1, 1) := by decide +kernel
theorem d_Co_closeBlock_33 : decode b_Co_closeBlock 33 = .ok (.invokevirtual 106, 3) := by decide +kernel
theorem d_Co_closeBlock_36 : decode b_Co_closeBlock 36 = .ok (.goto 9, 3) := by decide +kernel
theorem d_Co_closeBlock_39 : decode b_Co_closeBlock 39 = .ok (.aload_n 0, 1) := by decide +kernel
theorem d_Co_closeBlock_40 : decode b_Co_closeBlock 40 = .ok (.aload_n 2, 1) := by decide +kernel
theorem d_Co_closeBlock_41 : decode b_Co_closeBlock 41 = .ok (.aload_n 1, 1) := by decide +kernel
theorem d_Co_closeBlock_42 : decode b_Co_closeBlock 42 = .ok (.invokevirtual 93, 3) := by decide +kernel
theorem d_Co_closeBlock_45 : decode b_Co_closeBlock 45 = .ok (.aload_n 2, 1) := by decide +kernel
theorem d_Co_closeBlock_46 : decode b_Co_closeBlock 46 = .ok (.aload_n 1, 1) := by decide +kernel
theorem d_Co_closeBlock_47 : decode b_Co_closeBlock 47 = .ok (.invokevirtual 109, 3) := by decide +kernel
theorem d_Co_closeBlock_50 : decode b_Co_closeBlock 50 = .ok (.aload_n 0, 1) := by decide +kernel
theorem d_Co_closeBlock_51 : decode b_Co_closeBlock 51 = .ok (.dup, 1) := by decide +kernel
theorem d_Co_closeBlock_52 : decode b_Co_closeBlock 52 = .ok (.getfield 23, 3) := by decide +kernel
theorem d_Co_closeBlock_55 : decode b_Co_closeBlock 55 = .ok (.iconst 1, 1) := by decide +kernel
theorem d_Co_closeBlock_56 : decode b_Co_closeBlock 56 = .ok (.isub, 1) := by decide +kernel
theorem d_Co_closeBlock_57 : decode b_Co_closeBlock 57 = .ok (.putfield 23, 3) := by decide +kernel
theorem d_Co_closeBlock_60 : decode b_Co_closeBlock 60 = .ok (.return_, 1) := by decide +kernel
theorem d_Co_finishLocal_0 : decode b_Co_finishLocal 0 = .ok (.aload_n 2, 1) := by decide +kernel
theorem d_Co_finishLocal_1 : decode b_Co_finishLocal 1 = .ok (.iconst 5, 1) := by decide +kernel
theorem d_Co_finishLocal_2 : decode b_Co_finishLocal 2 = .ok (.aload_n 1, 1) := by decide +kernel
theorem d_Co_finishLocal_3 : decode b_Co_finishLocal 3 = .ok (.getfield 112, 3) := by decide +kernel
theorem d_Co_finishLocal_6 : decode b_Co_finishLocal 6 = .ok (.invokevirtual 36, 3) := by decide +kernel
theorem d_Co_finishLocal_9 : decode b_Co_finishLocal 9 = .ok (.aload_n 0, 1) := by decide +kernel
theorem d_Co_finishLocal_10 : decode b_Co_finishLocal 10 = .ok (.aload_n 1, 1) := by decide +kernel
theorem d_Co_finishLocal_11 : decode b_Co_finishLocal 11 = .ok (.aload_n 2, 1) := by decide +kernel
theorem d_Co_finishLocal_12 : decode b_Co_finishLocal 12 = .ok (.invokevirtual 89, 3) := by decide +kernel
theorem d_Co_finishLocal_15 : decode b_Co_finishLocal 15 = .ok (.aload_n 2, 1) := by decide +kernel
theorem d_Co_finishLocal_16 : decode b_Co_finishLocal 16 = .ok (.aload_n 1, 1) := by decide +kernel
theorem d_Co_finishLocal_17 : decode b_Co_finishLocal 17 = .ok (.getfield 73, 3) := by decide +kernel
theorem d_Co_finishLocal_20 : decode b_Co_finishLocal 20 = .ok (.invokevirtual 99, 3) := by decide +kernel
theorem d_Co_finishLocal_23 : decode b_Co_finishLocal 23 = .ok (.aload_n 2, 1) := by decide +kernel
theorem d_Co_finishLocal_24 : decode b_Co_finishLocal 24 = .ok (.iconst 5, 1) := by decide +kernel
theorem d_Co_finishLocal_25 : decode b_Co_finishLocal 25 = .ok (.aload_n 1, 1) := by decide +kernel
theorem d_Co_finishLocal_26 : decode b_Co_finishLocal 26 = .ok (.getfield 112, 3) := by decide +kernel
theorem d_Co_finishLocal_29 : decode b_Co_finishLocal 29 = .ok (.invokevirtual 36, 3) := by decide +kernel
theorem d_Co_finishLocal_32 : decode b_Co_finishLocal 32 = .ok (.aload_n 2, 1) := by decide +kernel
theorem d_Co_finishLocal_33 : decode b_Co_finishLocal 33 = .ok (.bipush 7, 2) := by decide +kernel
theorem d_Co_finishLocal_35 : decode b_Co_finishLocal 35 = .ok (.iconst 0, 1) := by decide +kernel
theorem d_Co_finishLocal_36 : decode b_Co_finishLocal 36 = .ok (.invokevirtual 36, 3) := by decide +kernel
theorem d_Co_finishLocal_39 : decode b_Co_finishLocal 39 = .ok (.return_, 1) := by decide +kernel
theorem d_Fr_init_0 : decode b_Fr_init 0 = .ok (.aload_n 0, 1) := by decide +kernel
theorem d_Fr_init_1 : decode b_Fr_init 1 = .ok (.invokespecial 3, 3) := by decide +kernel
theorem d_Fr_init_4 : decode b_Fr_init 4 = .ok (.aload_n 0, 1) := by decide +kernel
theorem d_Fr_init_5 : decode b_Fr_init 5 = .ok (.iconst 5, 1) := by decide +kernel
theorem d_Fr_init_6 : decode b_Fr_init 6 = .ok (.newarray .int, 2) := by decide +kernel
theorem d_Fr_init_8 : decode b_Fr_init 8 = .ok (.putfield 9, 3) := by decide +kernel
theorem d_Fr_init_11 : decode b_Fr_init 11 = .ok (.return_, 1) := by decide +kernel
theorem d_Fr_begin_0 : decode b_Fr_begin 0 = .ok (.aload_n 0, 1) := by decide +kernel
theorem d_Fr_begin_1 : decode b_Fr_begin 1 = .ok (.iload_n 1, 1) := by decide +kernel
theorem d_Fr_begin_2 : decode b_Fr_begin 2 = .ok (.putfield 15, 3) := by decide +kernel
theorem d_Fr_begin_5 : decode b_Fr_begin 5 = .ok (.aload_n 0, 1) := by decide +kernel
theorem d_Fr_begin_6 : decode b_Fr_begin 6 = .ok (.iconst 0, 1) := by decide +kernel
theorem d_Fr_begin_7 : decode b_Fr_begin 7 = .ok (.putfield 19, 3) := by decide +kernel
theorem d_Fr_begin_10 : decode b_Fr_begin 10 = .ok (.aload_n 0, 1) := by decide +kernel
theorem d_Fr_begin_11 : decode b_Fr_begin 11 = .ok (.iconst 0, 1) := by decide +kernel
theorem d_Fr_begin_12 : decode b_Fr_begin 12 = .ok (.putfield 22, 3) := by decide +kernel
theorem d_Fr_begin_15 : decode b_Fr_begin 15 = .ok (.return_, 1) := by decide +kernel
theorem d_Fr_currentPlace_0 : decode b_Fr_currentPlace 0 = .ok (.aload_n 0, 1) := by decide +kernel
theorem d_Fr_currentPlace_1 : decode b_Fr_currentPlace 1 = .ok (.getfield 19, 3) := by decide +kernel
theorem d_Fr_currentPlace_4 : decode b_Fr_currentPlace 4 = .ok (.iconst 1, 1) := by decide +kernel
theorem d_Fr_currentPlace_5 : decode b_Fr_currentPlace 5 = .ok (.isub, 1) := by decide +kernel
theorem d_Fr_currentPlace_6 : decode b_Fr_currentPlace 6 = .ok (.ireturn, 1) := by decide +kernel
theorem d_Fr_pushCaught_0 : decode b_Fr_pushCaught 0 = .ok (.aload_n 0, 1) := by decide +kernel
theorem d_Fr_pushCaught_1 : decode b_Fr_pushCaught 1 = .ok (.getfield 22, 3) := by decide +kernel
theorem d_Fr_pushCaught_4 : decode b_Fr_pushCaught 4 = .ok (.iconst 5, 1) := by decide +kernel
theorem d_Fr_pushCaught_5 : decode b_Fr_pushCaught 5 = .ok (.if_icmp .ge 23, 3) := by decide +kernel
theorem d_Fr_pushCaught_8 : decode b_Fr_pushCaught 8 = .ok (.aload_n 0, 1) := by decide +kernel
theorem d_Fr_pushCaught_9 : decode b_Fr_pushCaught 9 = .ok (.getfield 9, 3) := by decide +kernel
theorem d_Fr_pushCaught_12 : decode b_Fr_pushCaught 12 = .ok (.aload_n 0, 1) := by decide +kernel
theorem d_Fr_pushCaught_13 : decode b_Fr_pushCaught 13 = .ok (.getfield 22, 3) := by decide +kernel
theorem d_Fr_pushCaught_16 : decode b_Fr_pushCaught 16 = .ok (.iload_n 1, 1) := by decide +kernel
theorem d_Fr_pushCaught_17 : decode b_Fr_pushCaught 17 = .ok (.iastore, 1) := by decide +kernel
theorem d_Fr_pushCaught_18 : decode b_Fr_pushCaught 18 = .ok (.aload_n 0, 1) := by decide +kernel
theorem d_Fr_pushCaught_19 : decode b_Fr_pushCaught 19 = .ok (.dup, 1) := by decide +kernel
theorem d_Fr_pushCaught_20 : decode b_Fr_pushCaught 20 = .ok (.getfield 22, 3) := by decide +kernel
theorem d_Fr_pushCaught_23 : decode b_Fr_pushCaught 23 = .ok (.iconst 1, 1) := by decide +kernel
theorem d_Fr_pushCaught_24 : decode b_Fr_pushCaught 24 = .ok (.iadd, 1) := by decide +kernel
theorem d_Fr_pushCaught_25 : decode b_Fr_pushCaught 25 = .ok (.putfield 22, 3) := by decide +kernel
theorem d_Fr_pushCaught_28 : decode b_Fr_pushCaught 28 = .ok (.return_, 1) := by decide +kernel
theorem d_Fr_latestCaught_0 : decode b_Fr_latestCaught 0 = .ok (.aload_n 0, 1) := by decide +kernel
theorem d_Fr_latestCaught_1 : decode b_Fr_latestCaught 1 = .ok (.getfield 22, 3) := by decide +kernel
theorem d_Fr_latestCaught_4 : decode b_Fr_latestCaught 4 = .ok (.ifCond .le 17, 3) := by decide +kernel
theorem d_Fr_latestCaught_7 : decode b_Fr_latestCaught 7 = .ok (.aload_n 0, 1) := by decide +kernel
theorem d_Fr_latestCaught_8 : decode b_Fr_latestCaught 8 = .ok (.getfield 9, 3) := by decide +kernel
theorem d_Fr_latestCaught_11 : decode b_Fr_latestCaught 11 = .ok (.aload_n 0, 1) := by decide +kernel
theorem d_Fr_latestCaught_12 : decode b_Fr_latestCaught 12 = .ok (.getfield 22, 3) := by decide +kernel
theorem d_Fr_latestCaught_15 : decode b_Fr_latestCaught 15 = .ok (.iconst 1, 1) := by decide +kernel
theorem d_Fr_latestCaught_16 : decode b_Fr_latestCaught 16 = .ok (.isub, 1) := by decide +kernel
theorem d_Fr_latestCaught_17 : decode b_Fr_latestCaught 17 = .ok (.iaload, 1) := by decide +kernel
theorem d_Fr_latestCaught_18 : decode b_Fr_latestCaught 18 = .ok (.goto 4, 3) := by decide +kernel
theorem d_Fr_latestCaught_21 : decode b_Fr_latestCaught 21 = .ok (.iconst (-1), 1) := by decide +kernel
theorem d_Fr_latestCaught_22 : decode b_Fr_latestCaught 22 = .ok (.ireturn, 1) := by decide +kernel
theorem d_Fr_dropCaught_0 : decode b_Fr_dropCaught 0 = .ok (.aload_n 0, 1) := by decide +kernel
theorem d_Fr_dropCaught_1 : decode b_Fr_dropCaught 1 = .ok (.getfield 22, 3) := by decide +kernel
theorem d_Fr_dropCaught_4 : decode b_Fr_dropCaught 4 = .ok (.ifCond .le 13, 3) := by decide +kernel
theorem d_Fr_dropCaught_7 : decode b_Fr_dropCaught 7 = .ok (.aload_n 0, 1) := by decide +kernel
theorem d_Fr_dropCaught_8 : decode b_Fr_dropCaught 8 = .ok (.dup, 1) := by decide +kernel
theorem d_Fr_dropCaught_9 : decode b_Fr_dropCaught 9 = .ok (.getfield 22, 3) := by decide +kernel
theorem d_Fr_dropCaught_12 : decode b_Fr_dropCaught 12 = .ok (.iconst 1, 1) := by decide +kernel
theorem d_Fr_dropCaught_13 : decode b_Fr_dropCaught 13 = .ok (.isub, 1) := by decide +kernel
theorem d_Fr_dropCaught_14 : decode b_Fr_dropCaught 14 = .ok (.putfield 22, 3) := by decide +kernel
theorem d_Fr_dropCaught_17 : decode b_Fr_dropCaught 17 = .ok (.return_, 1) := by decide +kernel
