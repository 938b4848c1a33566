theorem d_Pr_init_47 : decode b_Pr_init 47 = .ok (.newarray .int, 2) := by decide +kernel
theorem d_Pr_init_49 : decode b_Pr_init 49 = .ok (.putfield 27, 3) := by decide +kernel
theorem d_Pr_init_52 : decode b_Pr_init 52 = .ok (.aload_n 0, 1) := by decide +kernel
theorem d_Pr_init_53 : decode b_Pr_init 53 = .ok (.bipush 20, 2) := by decide +kernel
theorem d_Pr_init_55 : decode b_Pr_init 55 = .ok (.newarray .int, 2) := by decide +kernel
theorem d_Pr_init_57 : decode b_Pr_init 57 = .ok (.putfield 30, 3) := by decide +kernel
theorem d_Pr_init_60 : decode b_Pr_init 60 = .ok (.aload_n 0, 1) := by decide +kernel
theorem d_Pr_init_61 : decode b_Pr_init 61 = .ok (.bipush 20, 2) := by decide +kernel
theorem d_Pr_init_63 : decode b_Pr_init 63 = .ok (.newarray .int, 2) := by decide +kernel
theorem d_Pr_init_65 : decode b_Pr_init 65 = .ok (.putfield 33, 3) := by decide +kernel
theorem d_Pr_init_68 : decode b_Pr_init 68 = .ok (.return_, 1) := by decide +kernel
theorem d_Pr_clear_0 : decode b_Pr_clear 0 = .ok (.aload_n 0, 1) := by decide +kernel
theorem d_Pr_clear_1 : decode b_Pr_clear 1 = .ok (.iconst 0, 1) := by decide +kernel
theorem d_Pr_clear_2 : decode b_Pr_clear 2 = .ok (.putfield 36, 3) := by decide +kernel
theorem d_Pr_clear_5 : decode b_Pr_clear 5 = .ok (.aload_n 0, 1) := by decide +kernel
theorem d_Pr_clear_6 : decode b_Pr_clear 6 = .ok (.iconst 0, 1) := by decide +kernel
theorem d_Pr_clear_7 : decode b_Pr_clear 7 = .ok (.putfield 40, 3) := by decide +kernel
theorem d_Pr_clear_10 : decode b_Pr_clear 10 = .ok (.aload_n 0, 1) := by decide +kernel
theorem d_Pr_clear_11 : decode b_Pr_clear 11 = .ok (.iconst 0, 1) := by decide +kernel
theorem d_Pr_clear_12 : decode b_Pr_clear 12 = .ok (.putfield 43, 3) := by decide +kernel
theorem d_Pr_clear_15 : decode b_Pr_clear 15 = .ok (.return_, 1) := by decide +kernel
theorem d_Pr_emit_0 : decode b_Pr_emit 0 = .ok (.aload_n 0, 1) := by decide +kernel
theorem d_Pr_emit_1 : decode b_Pr_emit 1 = .ok (.getfield 36, 3) := by decide +kernel
theorem d_Pr_emit_4 : decode b_Pr_emit 4 = .ok (.bipush 81, 2) := by decide +kernel
theorem d_Pr_emit_6 : decode b_Pr_emit 6 = .ok (.if_icmp .ge 33, 3) := by decide +kernel
theorem d_Pr_emit_9 : decode b_Pr_emit 9 = .ok (.aload_n 0, 1) := by decide +kernel
theorem d_Pr_emit_10 : decode b_Pr_emit 10 = .ok (.getfield 9, 3) := by decide +kernel
theorem d_Pr_emit_13 : decode b_Pr_emit 13 = .ok (.aload_n 0, 1) := by decide +kernel
theorem d_Pr_emit_14 : decode b_Pr_emit 14 = .ok (.getfield 36, 3) := by decide +kernel
theorem d_Pr_emit_17 : decode b_Pr_emit 17 = .ok (.iload_n 1, 1) := by decide +kernel
theorem d_Pr_emit_18 : decode b_Pr_emit 18 = .ok (.iastore, 1) := by decide +kernel
theorem d_Pr_emit_19 : decode b_Pr_emit 19 = .ok (.aload_n 0, 1) := by decide +kernel
theorem d_Pr_emit_20 : decode b_Pr_emit 20 = .ok (.getfield 15, 3) := by decide +kernel
theorem d_Pr_emit_23 : decode b_Pr_emit 23 = .ok (.aload_n 0, 1) := by decide +kernel
theorem d_Pr_emit_24 : decode b_Pr_emit 24 = .ok (.getfield 36, 3) := by decide +kernel
theorem d_Pr_emit_27 : decode b_Pr_emit 27 = .ok (.iload_n 2, 1) := by decide +kernel
theorem d_Pr_emit_28 : decode b_Pr_emit 28 = .ok (.iastore, 1) := by decide +kernel
theorem d_Pr_emit_29 : decode b_Pr_emit 29 = .ok (.aload_n 0, 1) := by decide +kernel
theorem d_Pr_emit_30 : decode b_Pr_emit 30 = .ok (.dup, 1) := by decide +kernel
theorem d_Pr_emit_31 : decode b_Pr_emit 31 = .ok (.getfield 36, 3) := by decide +kernel
theorem d_Pr_emit_34 : decode b_Pr_emit 34 = .ok (.iconst 1, 1) := by decide +kernel
theorem d_Pr_emit_35 : decode b_Pr_emit 35 = .ok (.iadd, 1) := by decide +kernel
theorem d_Pr_emit_36 : decode b_Pr_emit 36 = .ok (.putfield 36, 3) := by decide +kernel
theorem d_Pr_emit_39 : decode b_Pr_emit 39 = .ok (.return_, 1) := by decide +kernel
theorem d_Pr_emitAtSite_0 : decode b_Pr_emitAtSite 0 = .ok (.aload_n 0, 1) := by decide +kernel
theorem d_Pr_emitAtSite_1 : decode b_Pr_emitAtSite 1 = .ok (.getfield 43, 3) := by decide +kernel
theorem d_Pr_emitAtSite_4 : decode b_Pr_emitAtSite 4 = .ok (.ifCond .le 36, 3) := by decide +kernel
theorem d_Pr_emitAtSite_7 : decode b_Pr_emitAtSite 7 = .ok (.aload_n 0, 1) := by decide +kernel
theorem d_Pr_emitAtSite_8 : decode b_Pr_emitAtSite 8 = .ok (.getfield 33, 3) := by decide +kernel
theorem d_Pr_emitAtSite_11 : decode b_Pr_emitAtSite 11 = .ok (.aload_n 0, 1) := by decide +kernel
theorem d_Pr_emitAtSite_12 : decode b_Pr_emitAtSite 12 = .ok (.getfield 43, 3) := by decide +kernel
theorem d_Pr_emitAtSite_15 : decode b_Pr_emitAtSite 15 = .ok (.iconst 1, 1) := by decide +kernel
theorem d_Pr_emitAtSite_16 : decode b_Pr_emitAtSite 16 = .ok (.isub, 1) := by decide +kernel
theorem d_Pr_emitAtSite_17 : decode b_Pr_emitAtSite 17 = .ok (.iaload, 1) := by decide +kernel
theorem d_Pr_emitAtSite_18 : decode b_Pr_emitAtSite 18 = .ok (.iload_n 3, 1) := by decide +kernel
theorem d_Pr_emitAtSite_19 : decode b_Pr_emitAtSite 19 = .ok (.if_icmp .ne 21, 3) := by decide +kernel
theorem d_Pr_emitAtSite_22 : decode b_Pr_emitAtSite 22 = .ok (.aload_n 0, 1) := by decide +kernel
theorem d_Pr_emitAtSite_23 : decode b_Pr_emitAtSite 23 = .ok (.getfield 30, 3) := by decide +kernel
theorem d_Pr_emitAtSite_26 : decode b_Pr_emitAtSite 26 = .ok (.aload_n 0, 1) := by decide +kernel
theorem d_Pr_emitAtSite_27 : decode b_Pr_emitAtSite 27 = .ok (.getfield 43, 3) := by decide +kernel
theorem d_Pr_emitAtSite_30 : decode b_Pr_emitAtSite 30 = .ok (.iconst 1, 1) := by decide +kernel
theorem d_Pr_emitAtSite_31 : decode b_Pr_emitAtSite 31 = .ok (.isub, 1) := by decide +kernel
theorem d_Pr_emitAtSite_32 : decode b_Pr_emitAtSite 32 = .ok (.aload_n 0, 1) := by decide +kernel
theorem d_Pr_emitAtSite_33 : decode b_Pr_emitAtSite 33 = .ok (.getfield 36, 3) := by decide +kernel
theorem d_Pr_emitAtSite_36 : decode b_Pr_emitAtSite 36 = .ok (.iastore, 1) := by decide +kernel
theorem d_Pr_emitAtSite_37 : decode b_Pr_emitAtSite 37 = .ok (.goto 58, 3) := by decide +kernel
theorem d_Pr_emitAtSite_40 : decode b_Pr_emitAtSite 40 = .ok (.aload_n 0, 1) := by decide +kernel
theorem d_Pr_emitAtSite_41 : decode b_Pr_emitAtSite 41 = .ok (.getfield 43, 3) := by decide +kernel
theorem d_Pr_emitAtSite_44 : decode b_Pr_emitAtSite 44 = .ok (.bipush 20, 2) := by decide +kernel
theorem d_Pr_emitAtSite_46 : decode b_Pr_emitAtSite 46 = .ok (.if_icmp .ge 49, 3) := by decide +kernel
theorem d_Pr_emitAtSite_49 : decode b_Pr_emitAtSite 49 = .ok (.aload_n 0, 1) := by decide +kernel
theorem d_Pr_emitAtSite_50 : decode b_Pr_emitAtSite 50 = .ok (.getfield 27, 3) := by decide +kernel
theorem d_Pr_emitAtSite_53 : decode b_Pr_emitAtSite 53 = .ok (.aload_n 0, 1) := by decide +kernel
theorem d_Pr_emitAtSite_54 : decode b_Pr_emitAtSite 54 = .ok (.getfield 43, 3) := by decide +kernel
theorem d_Pr_emitAtSite_57 : decode b_Pr_emitAtSite 57 = .ok (.aload_n 0, 1) := by decide +kernel
theorem d_Pr_emitAtSite_58 : decode b_Pr_emitAtSite 58 = .ok (.getfield 36, 3) := by decide +kernel
theorem d_Pr_emitAtSite_61 : decode b_Pr_emitAtSite 61 = .ok (.iastore, 1) := by decide +kernel
theorem d_Pr_emitAtSite_62 : decode b_Pr_emitAtSite 62 = .ok (.aload_n 0, 1) := by decide +kernel
theorem d_Pr_emitAtSite_63 : decode b_Pr_emitAtSite 63 = .ok (.getfield 30, 3) := by decide +kernel
theorem d_Pr_emitAtSite_66 : decode b_Pr_emitAtSite 66 = .ok (.aload_n 0, 1) := by decide +kernel
theorem d_Pr_emitAtSite_67 : decode b_Pr_emitAtSite 67 = .ok (.getfield 43, 3) := by decide +kernel
theorem d_Pr_emitAtSite_70 : decode b_Pr_emitAtSite 70 = .ok (.aload_n 0, 1) := by decide +kernel
theorem d_Pr_emitAtSite_71 : decode b_Pr_emitAtSite 71 = .ok (.getfield 36, 3) := by decide +kernel
theorem d_Pr_emitAtSite_74 : decode b_Pr_emitAtSite 74 = .ok (.iastore, 1) := by decide +kernel
theorem d_Pr_emitAtSite_75 : decode b_Pr_emitAtSite 75 = .ok (.aload_n 0, 1) := by decide +kernel
theorem d_Pr_emitAtSite_76 : decode b_Pr_emitAtSite 76 = .ok (.getfield 33, 3) := by decide +kernel
theorem d_Pr_emitAtSite_79 : decode b_Pr_emitAtSite 79 = .ok (.aload_n 0, 1) := by decide +kernel
theorem d_Pr_emitAtSite_80 : decode b_Pr_emitAtSite 80 = .ok (.getfield 43, 3) := by decide +kernel
theorem d_Pr_emitAtSite_83 : decode b_Pr_emitAtSite 83 = .ok (.iload_n 3, 1) := by decide +kernel
theorem d_Pr_emitAtSite_84 : decode b_Pr_emitAtSite 84 = .ok (.iastore, 1) := by decide +kernel
theorem d_Pr_emitAtSite_85 : decode b_Pr_emitAtSite 85 = .ok (.aload_n 0, 1) := by decide +kernel
theorem d_Pr_emitAtSite_86 : decode b_Pr_emitAtSite 86 = .ok (.dup, 1) := by decide +kernel
theorem d_Pr_emitAtSite_87 : decode b_Pr_emitAtSite 87 = .ok (.getfield 43, 3) := by decide +kernel
theorem d_Pr_emitAtSite_90 : decode b_Pr_emitAtSite 90 = .ok (.iconst 1, 1) := by decide +kernel
theorem d_Pr_emitAtSite_91 : decode b_Pr_emitAtSite 91 = .ok (.iadd, 1) := by decide +kernel
theorem d_Pr_emitAtSite_92 : decode b_Pr_emitAtSite 92 = .ok (.putfield 43, 3) := by decide +kernel
theorem d_Pr_emitAtSite_95 : decode b_Pr_emitAtSite 95 = .ok (.aload_n 0, 1) := by decide +kernel
theorem d_Pr_emitAtSite_96 : decode b_Pr_emitAtSite 96 = .ok (.iload_n 1, 1) := by decide +kernel
theorem d_Pr_emitAtSite_97 : decode b_Pr_emitAtSite 97 = .ok (.iload_n 2, 1) := by decide +kernel
theorem d_Pr_emitAtSite_98 : decode b_Pr_emitAtSite 98 = .ok (.invokevirtual 56, 3) := by decide +kernel
theorem d_Pr_emitAtSite_101 : decode b_Pr_emitAtSite 101 = .ok (.return_, 1) := by decide +kernel
theorem d_Pr_makeAction_0 : decode b_Pr_makeAction 0 = .ok (.aload_n 0, 1) := by decide +kernel
theorem d_Pr_makeAction_1 : decode b_Pr_makeAction 1 = .ok (.getfield 40, 3) := by decide +kernel
theorem d_Pr_makeAction_4 : decode b_Pr_makeAction 4 = .ok (.bipush 40, 2) := by decide +kernel
theorem d_Pr_makeAction_6 : decode b_Pr_makeAction 6 = .ok (.if_icmp .lt 5, 3) := by decide +kernel
theorem d_Pr_makeAction_9 : decode b_Pr_makeAction 9 = .ok (.iconst (-1), 1) := by decide +kernel
theorem d_Pr_makeAction_10 : decode b_Pr_makeAction 10 = .ok (.ireturn, 1) := by decide +kernel
theorem d_Pr_makeAction_11 : decode b_Pr_makeAction 11 = .ok (.aload_n 0, 1) := by decide +kernel
theorem d_Pr_makeAction_12 : decode b_Pr_makeAction 12 = .ok (.getfield 40, 3) := by decide +kernel
theorem d_Pr_makeAction_15 : decode b_Pr_makeAction 15 = .ok (.istore_n 3, 1) := by decide +kernel
theorem d_Pr_makeAction_16 : decode b_Pr_makeAction 16 = .ok (.aload_n 0, 1) := by decide +kernel
theorem d_Pr_makeAction_17 : decode b_Pr_makeAction 17 = .ok (.getfield 18, 3) := by decide +kernel
theorem d_Pr_makeAction_20 : decode b_Pr_makeAction 20 = .ok (.iload_n 3, 1) := by decide +kernel
theorem d_Pr_makeAction_21 : decode b_Pr_makeAction 21 = .ok (.iload_n 1, 1) := by decide +kernel
theorem d_Pr_makeAction_22 : decode b_Pr_makeAction 22 = .ok (.iastore, 1) := by decide +kernel
theorem d_Pr_makeAction_23 : decode b_Pr_makeAction 23 = .ok (.aload_n 0, 1) := by decide +kernel
theorem d_Pr_makeAction_24 : decode b_Pr_makeAction 24 = .ok (.getfield 21, 3) := by decide +kernel
theorem d_Pr_makeAction_27 : decode b_Pr_makeAction 27 = .ok (.iload_n 3, 1) := by decide +kernel
theorem d_Pr_makeAction_28 : decode b_Pr_makeAction 28 = .ok (.iconst 0, 1) := by decide +kernel
theorem d_Pr_makeAction_29 : decode b_Pr_makeAction 29 = .ok (.iastore, 1) := by decide +kernel
theorem d_Pr_makeAction_30 : decode b_Pr_makeAction 30 = .ok (.aload_n 0, 1) := by decide +kernel
theorem d_Pr_makeAction_31 : decode b_Pr_makeAction 31 = .ok (.getfield 24, 3) := by decide +kernel
theorem d_Pr_makeAction_34 : decode b_Pr_makeAction 34 = .ok (.iload_n 3, 1) := by decide +kernel
theorem d_Pr_makeAction_35 : decode b_Pr_makeAction 35 = .ok (.iload_n 2, 1) := by decide +kernel
theorem d_Pr_makeAction_36 : decode b_Pr_makeAction 36 = .ok (.iastore, 1) := by decide +kernel
theorem d_Pr_makeAction_37 : decode b_Pr_makeAction 37 = .ok (.aload_n 0, 1) := by decide +kernel
theorem d_Pr_makeAction_38 : decode b_Pr_makeAction 38 = .ok (.dup, 1) := by decide +kernel
theorem d_Pr_makeAction_39 : decode b_Pr_makeAction 39 = .ok (.getfield 40, 3) := by decide +kernel
theorem d_Pr_makeAction_42 : decode b_Pr_makeAction 42 = .ok (.iconst 1, 1) := by decide +kernel
theorem d_Pr_makeAction_43 : decode b_Pr_makeAction 43 = .ok (.iadd, 1) := by decide +kernel
theorem d_Pr_makeAction_44 : decode b_Pr_makeAction 44 = .ok (.putfield 40, 3) := by decide +kernel
theorem d_Pr_makeAction_47 : decode b_Pr_makeAction 47 = .ok (.iload_n 3, 1) := by decide +kernel
theorem d_Pr_makeAction_48 : decode b_Pr_makeAction 48 = .ok (.ireturn, 1) := by decide +kernel
theorem d_Pr_chain_0 : decode b_Pr_chain 0 = .ok (.aload_n 0, 1) := by decide +kernel
theorem d_Pr_chain_1 : decode b_Pr_chain 1 = .ok (.iload_n 1, 1) := by decide +kernel
theorem d_Pr_chain_2 : decode b_Pr_chain 2 = .ok (.invokevirtual 50, 3) := by decide +kernel
theorem d_Pr_chain_5 : decode b_Pr_chain 5 = .ok (.ifCond .eq 10, 3) := by decide +kernel
theorem d_Pr_chain_8 : decode b_Pr_chain 8 = .ok (.aload_n 0, 1) := by decide +kernel
theorem d_Pr_chain_9 : decode b_Pr_chain 9 = .ok (.getfield 24, 3) := by decide +kernel
theorem d_Pr_chain_12 : decode b_Pr_chain 12 = .ok (.iload_n 1, 1) := by decide +kernel
theorem d_Pr_chain_13 : decode b_Pr_chain 13 = .ok (.iload_n 2, 1) := by decide +kernel
theorem d_Pr_chain_14 : decode b_Pr_chain 14 = .ok (.iastore, 1) := by decide +kernel
theorem d_Pr_chain_15 : decode b_Pr_chain 15 = .ok (.return_, 1) := by decide +kernel
theorem d_Pr_hasAction_0 : decode b_Pr_hasAction 0 = .ok (.iload_n 1, 1) := by decide +kernel
theorem d_Pr_hasAction_1 : decode b_Pr_hasAction 1 = .ok (.ifCond .lt 15, 3) := by decide +kernel
theorem d_Pr_hasAction_4 : decode b_Pr_hasAction 4 = .ok (.iload_n 1, 1) := by decide +kernel
theorem d_Pr_hasAction_5 : decode b_Pr_hasAction 5 = .ok (.aload_n 0, 1) := by decide +kernel
theorem d_Pr_hasAction_6 : decode b_Pr_hasAction 6 = .ok (.getfield 40, 3) := by decide +kernel
theorem d_Pr_hasAction_9 : decode b_Pr_hasAction 9 = .ok (.if_icmp .ge 7, 3) := by decide +kernel
theorem d_Pr_hasAction_12 : decode b_Pr_hasAction 12 = .ok (.iconst 1, 1) := by decide +kernel
theorem d_Pr_hasAction_13 : decode b_Pr_hasAction 13 = .ok (.goto 4, 3) := by decide +kernel
theorem d_Pr_hasAction_16 : decode b_Pr_hasAction 16 = .ok (.iconst 0, 1) := by decide +kernel
theorem d_Pr_hasAction_17 : decode b_Pr_hasAction 17 = .ok (.ireturn, 1) := by decide +kernel
theorem d_Pr_landHere_0 : decode b_Pr_landHere 0 = .ok (.aload_n 0, 1) := by decide +kernel
theorem d_Pr_landHere_1 : decode b_Pr_landHere 1 = .ok (.iload_n 1, 1) := by decide +kernel
theorem d_Pr_landHere_2 : decode b_Pr_landHere 2 = .ok (.invokevirtual 50, 3) := by decide +kernel
theorem d_Pr_landHere_5 : decode b_Pr_landHere 5 = .ok (.ifCond .eq 13, 3) := by decide +kernel
theorem d_Pr_landHere_8 : decode b_Pr_landHere 8 = .ok (.aload_n 0, 1) := by decide +kernel
theorem d_Pr_landHere_9 : decode b_Pr_landHere 9 = .ok (.getfield 21, 3) := by decide +kernel
theorem d_Pr_landHere_12 : decode b_Pr_landHere 12 = .ok (.iload_n 1, 1) := by decide +kernel
theorem d_Pr_landHere_13 : decode b_Pr_landHere 13 = .ok (.aload_n 0, 1) := by decide +kernel
theorem d_Pr_landHere_14 : decode b_Pr_landHere 14 = .ok (.getfield 36, 3) := by decide +kernel
theorem d_Pr_landHere_17 : decode b_Pr_landHere 17 = .ok (.iastore, 1) := by decide +kernel
theorem d_Pr_landHere_18 : decode b_Pr_landHere 18 = .ok (.return_, 1) := by decide +kernel
theorem d_Pr_aim_0 : decode b_Pr_aim 0 = .ok (.aload_n 0, 1) := by decide +kernel
theorem d_Pr_aim_1 : decode b_Pr_aim 1 = .ok (.iload_n 1, 1) := by decide +kernel
theorem d_Pr_aim_2 : decode b_Pr_aim 2 = .ok (.invokevirtual 46, 3) := by decide +kernel
theorem d_Pr_aim_5 : decode b_Pr_aim 5 = .ok (.ifCond .eq 10, 3) := by decide +kernel
theorem d_Pr_aim_8 : decode b_Pr_aim 8 = .ok (.aload_n 0, 1) := by decide +kernel
theorem d_Pr_aim_9 : decode b_Pr_aim 9 = .ok (.getfield 15, 3) := by decide +kernel
theorem d_Pr_aim_12 : decode b_Pr_aim 12 = .ok (.iload_n 1, 1) := by decide +kernel
theorem d_Pr_aim_13 : decode b_Pr_aim 13 = .ok (.iload_n 2, 1) := by decide +kernel
theorem d_Pr_aim_14 : decode b_Pr_aim 14 = .ok (.iastore, 1) := by decide +kernel
theorem d_Pr_aim_15 : decode b_Pr_aim 15 = .ok (.return_, 1) := by decide +kernel
theorem d_Pr_hasInstruction_0 : decode b_Pr_hasInstruction 0 = .ok (.iload_n 1, 1) := by decide +kernel
theorem d_Pr_hasInstruction_1 : decode b_Pr_hasInstruction 1 = .ok (.ifCond .lt 15, 3) := by decide +kernel
theorem d_Pr_hasInstruction_4 : decode b_Pr_hasInstruction 4 = .ok (.iload_n 1, 1) := by decide +kernel
theorem d_Pr_hasInstruction_5 : decode b_Pr_hasInstruction 5 = .ok (.aload_n 0, 1) := by decide +kernel
theorem d_Pr_hasInstruction_6 : decode b_Pr_hasInstruction 6 = .ok (.getfield 36, 3) := by decide +kernel
theorem d_Pr_hasInstruction_9 : decode b_Pr_hasInstruction 9 = .ok (.if_icmp .ge 7, 3) := by decide +kernel
theorem d_Pr_hasInstruction_12 : decode b_Pr_hasInstruction 12 = .ok (.iconst 1, 1) := by decide +kernel
theorem d_Pr_hasInstruction_13 : decode b_Pr_hasInstruction 13 = .ok (.goto 4, 3) := by decide +kernel
theorem d_Pr_hasInstruction_16 : decode b_Pr_hasInstruction 16 = .ok (.iconst 0, 1) := by decide +kernel
theorem d_Pr_hasInstruction_17 : decode b_Pr_hasInstruction 17 = .ok (.ireturn, 1) := by decide +kernel
theorem d_Pr_letterAt_0 : decode b_Pr_letterAt 0 = .ok (.aload_n 0, 1) := by decide +kernel
theorem d_Pr_letterAt_1 : decode b_Pr_letterAt 1 = .ok (.iload_n 1, 1) := by decide +kernel
theorem d_Pr_letterAt_2 : decode b_Pr_letterAt 2 = .ok (.invokevirtual 46, 3) := by decide +kernel
theorem d_Pr_letterAt_5 : decode b_Pr_letterAt 5 = .ok (.ifCond .eq 12, 3) := by decide +kernel
theorem d_Pr_letterAt_8 : decode b_Pr_letterAt 8 = .ok (.aload_n 0, 1) := by decide +kernel
theorem d_Pr_letterAt_9 : decode b_Pr_letterAt 9 = .ok (.getfield 9, 3) := by decide +kernel
theorem d_Pr_letterAt_12 : decode b_Pr_letterAt 12 = .ok (.iload_n 1, 1) := by decide +kernel
theorem d_Pr_letterAt_13 : decode b_Pr_letterAt 13 = .ok (.iaload, 1) := by decide +kernel
theorem d_Pr_letterAt_14 : decode b_Pr_letterAt 14 = .ok (.goto 5, 3) := by decide +kernel
theorem d_Pr_letterAt_17 : decode b_Pr_letterAt 17 = .ok (.bipush 8, 2) := by decide +kernel
theorem d_Pr_letterAt_19 : decode b_Pr_letterAt 19 = .ok (.ireturn, 1) := by decide +kernel
theorem d_Pr_valueAt_0 : decode b_Pr_valueAt 0 = .ok (.aload_n 0, 1) := by decide +kernel
theorem d_Pr_valueAt_1 : decode b_Pr_valueAt 1 = .ok (.iload_n 1, 1) := by decide +kernel
theorem d_Pr_valueAt_2 : decode b_Pr_valueAt 2 = .ok (.invokevirtual 46, 3) := by decide +kernel
theorem d_Pr_valueAt_5 : decode b_Pr_valueAt 5 = .ok (.ifCond .eq 12, 3) := by decide +kernel
theorem d_Pr_valueAt_8 : decode b_Pr_valueAt 8 = .ok (.aload_n 0, 1) := by decide +kernel
theorem d_Pr_valueAt_9 : decode b_Pr_valueAt 9 = .ok (.getfield 15, 3) := by decide +kernel
theorem d_Pr_valueAt_12 : decode b_Pr_valueAt 12 = .ok (.iload_n 1, 1) := by decide +kernel
theorem d_Pr_valueAt_13 : decode b_Pr_valueAt 13 = .ok (.iaload, 1) := by decide +kernel
theorem d_Pr_valueAt_14 : decode b_Pr_valueAt 14 = .ok (.goto 4, 3) := by decide +kernel
theorem d_Pr_valueAt_17 : decode b_Pr_valueAt 17 = .ok (.iconst 0, 1) := by decide +kernel
theorem d_Pr_valueAt_18 : decode b_Pr_valueAt 18 = .ok (.ireturn, 1) := by decide +kernel
theorem d_Pr_filterOf_0 : decode b_Pr_filterOf 0 = .ok (.aload_n 0, 1) := by decide +kernel
theorem d_Pr_filterOf_1 : decode b_Pr_filterOf 1 = .ok (.iload_n 1, 1) := by decide +kernel
theorem d_Pr_filterOf_2 : decode b_Pr_filterOf 2 = .ok (.invokevirtual 50, 3) := by decide +kernel
theorem d_Pr_filterOf_5 : decode b_Pr_filterOf 5 = .ok (.ifCond .eq 12, 3) := by decide +kernel
theorem d_Pr_filterOf_8 : decode b_Pr_filterOf 8 = .ok (.aload_n 0, 1) := by decide +kernel
theorem d_Pr_filterOf_9 : decode b_Pr_filterOf 9 = .ok (.getfield 18, 3) := by decide +kernel
theorem d_Pr_filterOf_12 : decode b_Pr_filterOf 12 = .ok (.iload_n 1, 1) := by decide +kernel
theorem d_Pr_filterOf_13 : decode b_Pr_filterOf 13 = .ok (.iaload, 1) := by decide +kernel
theorem d_Pr_filterOf_14 : decode b_Pr_filterOf 14 = .ok (.goto 5, 3) := by decide +kernel
theorem d_Pr_filterOf_17 : decode b_Pr_filterOf 17 = .ok (.bipush (-2), 2) := by decide +kernel
theorem d_Pr_filterOf_19 : decode b_Pr_filterOf 19 = .ok (.ireturn, 1) := by decide +kernel
theorem d_Pr_landingOf_0 : decode b_Pr_landingOf 0 = .ok (.aload_n 0, 1) := by decide +kernel
theorem d_Pr_landingOf_1 : decode b_Pr_landingOf 1 = .ok (.iload_n 1, 1) := by decide +kernel
theorem d_Pr_landingOf_2 : decode b_Pr_landingOf 2 = .ok (.invokevirtual 50, 3) := by decide +kernel
theorem d_Pr_landingOf_5 : decode b_Pr_landingOf 5 = .ok (.ifCond .eq 12, 3) := by decide +kernel
theorem d_Pr_landingOf_8 : decode b_Pr_landingOf 8 = .ok (.aload_n 0, 1) := by decide +kernel
theorem d_Pr_landingOf_9 : decode b_Pr_landingOf 9 = .ok (.getfield 21, 3) := by decide +kernel
theorem d_Pr_landingOf_12 : decode b_Pr_landingOf 12 = .ok (.iload_n 1, 1) := by decide +kernel
theorem d_Pr_landingOf_13 : decode b_Pr_landingOf 13 = .ok (.iaload, 1) := by decide +kernel
theorem d_Pr_landingOf_14 : decode b_Pr_landingOf 14 = .ok (.goto 4, 3) := by decide +kernel
theorem d_Pr_landingOf_17 : decode b_Pr_landingOf 17 = .ok (.iconst 0, 1) := by decide +kernel
theorem d_Pr_landingOf_18 : decode b_Pr_landingOf 18 = .ok (.ireturn, 1) := by decide +kernel
theorem d_Pr_nextOf_0 : decode b_Pr_nextOf 0 = .ok (.aload_n 0, 1) := by decide +kernel
theorem d_Pr_nextOf_1 : decode b_Pr_nextOf 1 = .ok (.iload_n 1, 1) := by decide +kernel
theorem d_Pr_nextOf_2 : decode b_Pr_nextOf 2 = .ok (.invokevirtual 50, 3) := by decide +kernel
theorem d_Pr_nextOf_5 : decode b_Pr_nextOf 5 = .ok (.ifCond .eq 12, 3) := by decide +kernel
theorem d_Pr_nextOf_8 : decode b_Pr_nextOf 8 = .ok (.aload_n 0, 1) := by decide +kernel
theorem d_Pr_nextOf_9 : decode b_Pr_nextOf 9 = .ok (.getfield 24, 3) := by decide +kernel
theorem d_Pr_nextOf_12 : decode b_Pr_nextOf 12 = .ok (.iload_n 1, 1) := by decide +kernel
theorem d_Pr_nextOf_13 : decode b_Pr_nextOf 13 = .ok (.iaload, 1) := by decide +kernel
theorem d_Pr_nextOf_14 : decode b_Pr_nextOf 14 = .ok (.goto 4, 3) := by decide +kernel
theorem d_Pr_nextOf_17 : decode b_Pr_nextOf 17 = .ok (.iconst (-1), 1) := by decide +kernel
theorem d_Pr_nextOf_18 : decode b_Pr_nextOf 18 = .ok (.ireturn, 1) := by decide +kernel
theorem d_Pr_hasSite_0 : decode b_Pr_hasSite 0 = .ok (.iload_n 1, 1) := by decide +kernel
theorem d_Pr_hasSite_1 : decode b_Pr_hasSite 1 = .ok (.ifCond .lt 15, 3) := by decide +kernel
theorem d_Pr_hasSite_4 : decode b_Pr_hasSite 4 = .ok (.iload_n 1, 1) := by decide +kernel
theorem d_Pr_hasSite_5 : decode b_Pr_hasSite 5 = .ok (.aload_n 0, 1) := by decide +kernel
theorem d_Pr_hasSite_6 : decode b_Pr_hasSite 6 = .ok (.getfield 43, 3) := by decide +kernel
theorem d_Pr_hasSite_9 : decode b_Pr_hasSite 9 = .ok (.if_icmp .ge 7, 3) := by decide +kernel
theorem d_Pr_hasSite_12 : decode b_Pr_hasSite 12 = .ok (.iconst 1, 1) := by decide +kernel
theorem d_Pr_hasSite_13 : decode b_Pr_hasSite 13 = .ok (.goto 4, 3) := by decide +kernel
theorem d_Pr_hasSite_16 : decode b_Pr_hasSite 16 = .ok (.iconst 0, 1) := by decide +kernel
theorem d_Pr_hasSite_17 : decode b_Pr_hasSite 17 = .ok (.ireturn, 1) := by decide +kernel
theorem d_Pr_firstPlaceOf_0 : decode b_Pr_firstPlaceOf 0 = .ok (.aload_n 0, 1) := by decide +kernel
theorem d_Pr_firstPlaceOf_1 : decode b_Pr_firstPlaceOf 1 = .ok (.iload_n 1, 1) := by decide +kernel
theorem d_Pr_firstPlaceOf_2 : decode b_Pr_firstPlaceOf 2 = .ok (.invokevirtual 53, 3) := by decide +kernel
theorem d_Pr_firstPlaceOf_5 : decode b_Pr_firstPlaceOf 5 = .ok (.ifCond .eq 12, 3) := by decide +kernel
theorem d_Pr_firstPlaceOf_8 : decode b_Pr_firstPlaceOf 8 = .ok (.aload_n 0, 1) := by decide +kernel
theorem d_Pr_firstPlaceOf_9 : decode b_Pr_firstPlaceOf 9 = .ok (.getfield 27, 3) := by decide +kernel
theorem d_Pr_firstPlaceOf_12 : decode b_Pr_firstPlaceOf 12 = .ok (.iload_n 1, 1) := by decide +kernel
theorem d_Pr_firstPlaceOf_13 : decode b_Pr_firstPlaceOf 13 = .ok (.iaload, 1) := by decide +kernel
theorem d_Pr_firstPlaceOf_14 : decode b_Pr_firstPlaceOf 14 = .ok (.goto 4, 3) := by decide +kernel
theorem d_Pr_firstPlaceOf_17 : decode b_Pr_firstPlaceOf 17 = .ok (.iconst (-1), 1) := by decide +kernel
theorem d_Pr_firstPlaceOf_18 : decode b_Pr_firstPlaceOf 18 = .ok (.ireturn, 1) := by decide +kernel
theorem d_Pr_lastPlaceOf_0 : decode b_Pr_lastPlaceOf 0 = .ok (.aload_n 0, 1) := by decide +kernel
theorem d_Pr_lastPlaceOf_1 : decode b_Pr_lastPlaceOf 1 = .ok (.iload_n 1, 1) := by decide +kernel
theorem d_Pr_lastPlaceOf_2 : decode b_Pr_lastPlaceOf 2 = .ok (.invokevirtual 53, 3) := by decide +kernel
theorem d_Pr_lastPlaceOf_5 : decode b_Pr_lastPlaceOf 5 = .ok (.ifCond .eq 12, 3) := by decide +kernel
theorem d_Pr_lastPlaceOf_8 : decode b_Pr_lastPlaceOf 8 = .ok (.aload_n 0, 1) := by decide +kernel
theorem d_Pr_lastPlaceOf_9 : decode b_Pr_lastPlaceOf 9 = .ok (.getfield 30, 3) := by decide +kernel
theorem d_Pr_lastPlaceOf_12 : decode b_Pr_lastPlaceOf 12 = .ok (.iload_n 1, 1) := by decide +kernel
theorem d_Pr_lastPlaceOf_13 : decode b_Pr_lastPlaceOf 13 = .ok (.iaload, 1) := by decide +kernel
theorem d_Pr_lastPlaceOf_14 : decode b_Pr_lastPlaceOf 14 = .ok (.goto 4, 3) := by decide +kernel
theorem d_Pr_lastPlaceOf_17 : decode b_Pr_lastPlaceOf 17 = .ok (.iconst (-1), 1) := by decide +kernel
theorem d_Pr_lastPlaceOf_18 : decode b_Pr_lastPlaceOf 18 = .ok (.ireturn, 1) := by decide +kernel
theorem d_Pr_siteHeadOf_0 : decode b_Pr_siteHeadOf 0 = .ok (.aload_n 0, 1) := by decide +kernel
theorem d_Pr_siteHeadOf_1 : decode b_Pr_siteHeadOf 1 = .ok (.iload_n 1, 1) := by decide +kernel
theorem d_Pr_siteHeadOf_2 : decode b_Pr_siteHeadOf 2 = .ok (.invokevirtual 53, 3) := by decide +kernel
theorem d_Pr_siteHeadOf_5 : decode b_Pr_siteHeadOf 5 = .ok (.ifCond .eq 12, 3) := by decide +kernel
theorem d_Pr_siteHeadOf_8 : decode b_Pr_siteHeadOf 8 = .ok (.aload_n 0, 1) := by decide +kernel
theorem d_Pr_siteHeadOf_9 : decode b_Pr_siteHeadOf 9 = .ok (.getfield 33, 3) := by decide +kernel
theorem d_Pr_siteHeadOf_12 : decode b_Pr_siteHeadOf 12 = .ok (.iload_n 1, 1) := by decide +kernel
theorem d_Pr_siteHeadOf_13 : decode b_Pr_siteHeadOf 13 = .ok (.iaload, 1) := by decide +kernel
theorem d_Pr_siteHeadOf_14 : decode b_Pr_siteHeadOf 14 = .ok (.goto 4, 3) := by decide +kernel
theorem d_Pr_siteHeadOf_17 : decode b_Pr_siteHeadOf 17 = .ok (.iconst (-1), 1) := by decide +kernel
theorem d_Pr_siteHeadOf_18 : decode b_Pr_siteHeadOf 18 = .ok (.ireturn, 1) := by decide +kernel
theorem d_Pr_isMade_0 : decode b_Pr_isMade 0 = .ok (.aload_n 0, 1) := by decide +kernel
theorem d_Pr_isMade_1 : decode b_Pr_isMade 1 = .ok (.getfield 36, 3) := by decide +kernel
theorem d_Pr_isMade_4 : decode b_Pr_isMade 4 = .ok (.ifCond .le 7, 3) := by decide +kernel
theorem d_Pr_isMade_7 : decode b_Pr_isMade 7 = .ok (.iconst 1, 1) := by decide +kernel
theorem d_Pr_isMade_8 : decode b_Pr_isMade 8 = .ok (.goto 4, 3) := by decide +kernel
theorem d_Pr_isMade_11 : decode b_Pr_isMade 11 = .ok (.iconst 0, 1) := by decide +kernel
theorem d_Pr_isMade_12 : decode b_Pr_isMade 12 = .ok (.ireturn, 1) := by decide +kernel
theorem d_Pr_headAround_0 : decode b_Pr_headAround 0 = .ok (.iconst 0, 1) := by decide +kernel
theorem d_Pr_headAround_1 : decode b_Pr_headAround 1 = .ok (.istore_n 2, 1) := by decide +kernel
theorem d_Pr_headAround_2 : decode b_Pr_headAround 2 = .ok (.iload_n 2, 1) := by decide +kernel
theorem d_Pr_headAround_3 : decode b_Pr_headAround 3 = .ok (.aload_n 0, 1) := by decide +kernel
theorem d_Pr_headAround_4 : decode b_Pr_headAround 4 = .ok (.getfield 43, 3) := by decide +kernel
theorem d_Pr_headAround_7 : decode b_Pr_headAround 7 = .ok (.if_icmp .ge 36, 3) := by decide +kernel
theorem d_Pr_headAround_10 : decode b_Pr_headAround 10 = .ok (.aload_n 0, 1) := by decide +kernel
theorem d_Pr_headAround_11 : decode b_Pr_headAround 11 = .ok (.getfield 27, 3) := by decide +kernel
theorem d_Pr_headAround_14 : decode b_Pr_headAround 14 = .ok (.iload_n 2, 1) := by decide +kernel
theorem d_Pr_headAround_15 : decode b_Pr_headAround 15 = .ok (.iaload, 1) := by decide +kernel
theorem d_Pr_headAround_16 : decode b_Pr_headAround 16 = .ok (.iload_n 1, 1) := by decide +kernel
theorem d_Pr_headAround_17 : decode b_Pr_headAround 17 = .ok (.if_icmp .gt 20, 3) := by decide +kernel
theorem d_Pr_headAround_20 : decode b_Pr_headAround 20 = .ok (.iload_n 1, 1) := by decide +kernel
theorem d_Pr_headAround_21 : decode b_Pr_headAround 21 = .ok (.aload_n 0, 1) := by decide +kernel
theorem d_Pr_headAround_22 : decode b_Pr_headAround 22 = .ok (.getfield 30, 3) := by decide +kernel
theorem d_Pr_headAround_25 : decode b_Pr_headAround 25 = .ok (.iload_n 2, 1) := by decide +kernel
theorem d_Pr_headAround_26 : decode b_Pr_headAround 26 = .ok (.iaload, 1) := by decide +kernel
theorem d_Pr_headAround_27 : decode b_Pr_headAround 27 = .ok (.if_icmp .gt 10, 3) := by decide +kernel
theorem d_Pr_headAround_30 : decode b_Pr_headAround 30 = .ok (.aload_n 0, 1) := by decide +kernel
theorem d_Pr_headAround_31 : decode b_Pr_headAround 31 = .ok (.getfield 33, 3) := by decide +kernel
theorem d_Pr_headAround_34 : decode b_Pr_headAround 34 = .ok (.iload_n 2, 1) := by decide +kernel
theorem d_Pr_headAround_35 : decode b_Pr_headAround 35 = .ok (.iaload, 1) := by decide +kernel
theorem d_Pr_headAround_36 : decode b_Pr_headAround 36 = .ok (.ireturn, 1) := by decide +kernel
theorem d_Pr_headAround_37 : decode b_Pr_headAround 37 = .ok (.iinc 2 1, 3) := by decide +kernel
theorem d_Pr_headAround_40 : decode b_Pr_headAround 40 = .ok (.goto (-38), 3) := by decide +kernel
theorem d_Pr_headAround_43 : decode b_Pr_headAround 43 = .ok (.iconst (-1), 1) := by decide +kernel
theorem d_Pr_headAround_44 : decode b_Pr_headAround 44 = .ok (.ireturn, 1) := by decide +kernel
theorem d_Ta_init_0 : decode b_Ta_init 0 = .ok (.aload_n 0, 1) := by decide +kernel
theorem d_Ta_init_1 : decode b_Ta_init 1 = .ok (.invokespecial 3, 3) := by decide +kernel
theorem d_Ta_init_4 : decode b_Ta_init 4 = .ok (.aload_n 0, 1) := by decide +kernel
theorem d_Ta_init_5 : decode b_Ta_init 5 = .ok (.bipush 60, 2) := by decide +kernel
theorem d_Ta_init_7 : decode b_Ta_init 7 = .ok (.newarray .int, 2) := by decide +kernel
theorem d_Ta_init_9 : decode b_Ta_init 9 = .ok (.putfield 9, 3) := by decide +kernel
theorem d_Ta_init_12 : decode b_Ta_init 12 = .ok (.aload_n 0, 1) := by decide +kernel
theorem d_Ta_init_13 : decode b_Ta_init 13 = .ok (.iconst (-1), 1) := by decide +kernel
theorem d_Ta_init_14 : decode b_Ta_init 14 = .ok (.putfield 15, 3) := by decide +kernel
theorem d_Ta_init_17 : decode b_Ta_init 17 = .ok (.return_, 1) := by decide +kernel
theorem d_Ta_clear_0 : decode b_Ta_clear 0 = .ok (.aload_n 0, 1) := by decide +kernel
theorem d_Ta_clear_1 : decode b_Ta_clear 1 = .ok (.iconst 0, 1) := by decide +kernel
theorem d_Ta_clear_2 : decode b_Ta_clear 2 = .ok (.putfield 19, 3) := by decide +kernel
theorem d_Ta_clear_5 : decode b_Ta_clear 5 = .ok (.aload_n 0, 1) := by decide +kernel
theorem d_Ta_clear_6 : decode b_Ta_clear 6 = .ok (.iconst 0, 1) := by decide +kernel
theorem d_Ta_clear_7 : decode b_Ta_clear 7 = .ok (.putfield 22, 3) := by decide +kernel
theorem d_Ta_clear_10 : decode b_Ta_clear 10 = .ok (.aload_n 0, 1) := by decide +kernel
theorem d_Ta_clear_11 : decode b_Ta_clear 11 = .ok (.iconst 0, 1) := by decide +kernel
theorem d_Ta_clear_12 : decode b_Ta_clear 12 = .ok (.putfield 25, 3) := by decide +kernel
theorem d_Ta_clear_15 : decode b_Ta_clear 15 = .ok (.aload_n 0, 1) := by decide +kernel
theorem d_Ta_clear_16 : decode b_Ta_clear 16 = .ok (.iconst 0, 1) := by decide +kernel
theorem d_Ta_clear_17 : decode b_Ta_clear 17 = .ok (.putfield 28, 3) := by decide +kernel
theorem d_Ta_clear_20 : decode b_Ta_clear 20 = .ok (.aload_n 0, 1) := by decide +kernel
theorem d_Ta_clear_21 : decode b_Ta_clear 21 = .ok (.iconst 0, 1) := by decide +kernel
theorem d_Ta_clear_22 : decode b_Ta_clear 22 = .ok (.putfield 31, 3) := by decide +kernel
theorem d_Ta_clear_25 : decode b_Ta_clear 25 = .ok (.aload_n 0, 1) := by decide +kernel
theorem d_Ta_clear_26 : decode b_Ta_clear 26 = .ok (.iconst (-1), 1) := by decide +kernel
theorem d_Ta_clear_27 : decode b_Ta_clear 27 = .ok (.putfield 15, 3) := by decide +kernel
theorem d_Ta_clear_30 : decode b_Ta_clear 30 = .ok (.return_, 1) := by decide +kernel
theorem d_Ta_isFull_0 : decode b_Ta_isFull 0 = .ok (.aload_n 0, 1) := by decide +kernel
theorem d_Ta_isFull_1 : decode b_Ta_isFull 1 = .ok (.getfield 19, 3) := by decide +kernel
theorem d_Ta_isFull_4 : decode b_Ta_isFull 4 = .ok (.bipush 60, 2) := by decide +kernel
theorem d_Ta_isFull_6 : decode b_Ta_isFull 6 = .ok (.if_icmp .lt 7, 3) := by decide +kernel
theorem d_Ta_isFull_9 : decode b_Ta_isFull 9 = .ok (.iconst 1, 1) := by decide +kernel
theorem d_Ta_isFull_10 : decode b_Ta_isFull 10 = .ok (.goto 4, 3) := by decide +kernel
theorem d_Ta_isFull_13 : decode b_Ta_isFull 13 = .ok (.iconst 0, 1) := by decide +kernel
theorem d_Ta_isFull_14 : decode b_Ta_isFull 14 = .ok (.ireturn, 1) := by decide +kernel
theorem d_Ta_put_0 : decode b_Ta_put 0 = .ok (.aload_n 0, 1) := by decide +kernel
theorem d_Ta_put_1 : decode b_Ta_put 1 = .ok (.invokevirtual 34, 3) := by decide +kernel
theorem d_Ta_put_4 : decode b_Ta_put 4 = .ok (.ifCond .ne 23, 3) := by decide +kernel
theorem d_Ta_put_7 : decode b_Ta_put 7 = .ok (.aload_n 0, 1) := by decide +kernel
theorem d_Ta_put_8 : decode b_Ta_put 8 = .ok (.getfield 9, 3) := by decide +kernel
theorem d_Ta_put_11 : decode b_Ta_put 11 = .ok (.aload_n 0, 1) := by decide +kernel
theorem d_Ta_put_12 : decode b_Ta_put 12 = .ok (.getfield 19, 3) := by decide +kernel
theorem d_Ta_put_15 : decode b_Ta_put 15 = .ok (.iload_n 1, 1) := by decide +kernel
theorem d_Ta_put_16 : decode b_Ta_put 16 = .ok (.iastore, 1) := by decide +kernel
theorem d_Ta_put_17 : decode b_Ta_put 17 = .ok (.aload_n 0, 1) := by decide +kernel
theorem d_Ta_put_18 : decode b_Ta_put 18 = .ok (.dup, 1) := by decide +kernel
theorem d_Ta_put_19 : decode b_Ta_put 19 = .ok (.getfield 19, 3) := by decide +kernel
theorem d_Ta_put_22 : decode b_Ta_put 22 = .ok (.iconst 1, 1) := by decide +kernel
theorem d_Ta_put_23 : decode b_Ta_put 23 = .ok (.iadd, 1) := by decide +kernel
theorem d_Ta_put_24 : decode b_Ta_put 24 = .ok (.putfield 19, 3) := by decide +kernel
theorem d_Ta_put_27 : decode b_Ta_put 27 = .ok (.return_, 1) := by decide +kernel
theorem d_Ta_hasNumber_0 : decode b_Ta_hasNumber 0 = .ok (.iload_n 1, 1) := by decide +kernel
theorem d_Ta_hasNumber_1 : decode b_Ta_hasNumber 1 = .ok (.ifCond .lt 15, 3) := by decide +kernel
theorem d_Ta_hasNumber_4 : decode b_Ta_hasNumber 4 = .ok (.iload_n 1, 1) := by decide +kernel
theorem d_Ta_hasNumber_5 : decode b_Ta_hasNumber 5 = .ok (.aload_n 0, 1) := by decide +kernel
theorem d_Ta_hasNumber_6 : decode b_Ta_hasNumber 6 = .ok (.getfield 19, 3) := by decide +kernel
theorem d_Ta_hasNumber_9 : decode b_Ta_hasNumber 9 = .ok (.if_icmp .ge 7, 3) := by decide +kernel
theorem d_Ta_hasNumber_12 : decode b_Ta_hasNumber 12 = .ok (.iconst 1, 1) := by decide +kernel
theorem d_Ta_hasNumber_13 : decode b_Ta_hasNumber 13 = .ok (.goto 4, 3) := by decide +kernel
theorem d_Ta_hasNumber_16 : decode b_Ta_hasNumber 16 = .ok (.iconst 0, 1) := by decide +kernel
theorem d_Ta_hasNumber_17 : decode b_Ta_hasNumber 17 = .ok (.ireturn, 1) := by decide +kernel
theorem d_Ta_numberAt_0 : decode b_Ta_numberAt 0 = .ok (.aload_n 0, 1) := by decide +kernel
theorem d_Ta_numberAt_1 : decode b_Ta_numberAt 1 = .ok (.iload_n 1, 1) := by decide +kernel
theorem d_Ta_numberAt_2 : decode b_Ta_numberAt 2 = .ok (.invokevirtual 38, 3) := by decide +kernel
theorem d_Ta_numberAt_5 : decode b_Ta_numberAt 5 = .ok (.ifCond .eq 12, 3) := by decide +kernel
theorem d_Ta_numberAt_8 : decode b_Ta_numberAt 8 = .ok (.aload_n 0, 1) := by decide +kernel
theorem d_Ta_numberAt_9 : decode b_Ta_numberAt 9 = .ok (.getfield 9, 3) := by decide +kernel
theorem d_Ta_numberAt_12 : decode b_Ta_numberAt 12 = .ok (.iload_n 1, 1) := by decide +kernel
theorem d_Ta_numberAt_13 : decode b_Ta_numberAt 13 = .ok (.iaload, 1) := by decide +kernel
theorem d_Ta_numberAt_14 : decode b_Ta_numberAt 14 = .ok (.goto 4, 3) := by decide +kernel
theorem d_Ta_numberAt_17 : decode b_Ta_numberAt 17 = .ok (.iconst (-1), 1) := by decide +kernel
theorem d_Ta_numberAt_18 : decode b_Ta_numberAt 18 = .ok (.ireturn, 1) := by decide +kernel
theorem d_Tx_init_0 : decode b_Tx_init 0 = .ok (.aload_n 0, 1) := by decide +kernel
theorem d_Tx_init_1 : decode b_Tx_init 1 = .ok (.invokespecial 3, 3) := by decide +kernel
theorem d_Tx_init_4 : decode b_Tx_init 4 = .ok (.aload_n 0, 1) := by decide +kernel
theorem d_Tx_init_5 : decode b_Tx_init 5 = .ok (.bipush 20, 2) := by decide +kernel
theorem d_Tx_init_7 : decode b_Tx_init 7 = .ok (.newarray .int, 2) := by decide +kernel
theorem d_Tx_init_9 : decode b_Tx_init 9 = .ok (.putfield 9, 3) := by decide +kernel
theorem d_Tx_init_12 : decode b_Tx_init 12 = .ok (.aload_n 0, 1) := by decide +kernel
theorem d_Tx_init_13 : decode b_Tx_init 13 = .ok (.bipush 20, 2) := by decide +kernel
theorem d_Tx_init_15 : decode b_Tx_init 15 = .ok (.newarray .int, 2) := by decide +kernel
theorem d_Tx_init_17 : decode b_Tx_init 17 = .ok (.putfield 15, 3) := by decide +kernel
theorem d_Tx_init_20 : decode b_Tx_init 20 = .ok (.return_, 1) := by decide +kernel
theorem d_Tx_isFull_0 : decode b_Tx_isFull 0 = .ok (.aload_n 0, 1) := by decide +kernel
theorem d_Tx_isFull_1 : decode b_Tx_isFull 1 = .ok (.getfield 18, 3) := by decide +kernel
theorem d_Tx_isFull_4 : decode b_Tx_isFull 4 = .ok (.bipush 20, 2) := by decide +kernel
theorem d_Tx_isFull_6 : decode b_Tx_isFull 6 = .ok (.if_icmp .lt 7, 3) := by decide +kernel
theorem d_Tx_isFull_9 : decode b_Tx_isFull 9 = .ok (.iconst 1, 1) := by decide +kernel
theorem d_Tx_isFull_10 : decode b_Tx_isFull 10 = .ok (.goto 4, 3) := by decide +kernel
theorem d_Tx_isFull_13 : decode b_Tx_isFull 13 = .ok (.iconst 0, 1) := by decide +kernel
theorem d_Tx_isFull_14 : decode b_Tx_isFull 14 = .ok (.ireturn, 1) := by decide +kernel
theorem d_Tx_append_0 : decode b_Tx_append 0 = .ok (.aload_n 0, 1) := by decide +kernel
theorem d_Tx_append_1 : decode b_Tx_append 1 = .ok (.invokevirtual 22, 3) := by decide +kernel
theorem d_Tx_append_4 : decode b_Tx_append 4 = .ok (.ifCond .ne 33, 3) := by decide +kernel
theorem d_Tx_append_7 : decode b_Tx_append 7 = .ok (.aload_n 0, 1) := by decide +kernel
theorem d_Tx_append_8 : decode b_Tx_append 8 = .ok (.getfield 9, 3) := by decide +kernel
theorem d_Tx_append_11 : decode b_Tx_append 11 = .ok (.aload_n 0, 1) := by decide +kernel
theorem d_Tx_append_12 : decode b_Tx_append 12 = .ok (.getfield 18, 3) := by decide +kernel
theorem d_Tx_append_15 : decode b_Tx_append 15 = .ok (.iload_n 1, 1) := by decide +kernel
theorem d_Tx_append_16 : decode b_Tx_append 16 = .ok (.iastore, 1) := by decide +kernel
theorem d_Tx_append_17 : decode b_Tx_append 17 = .ok (.aload_n 0, 1) := by decide +kernel
theorem d_Tx_append_18 : decode b_Tx_append 18 = .ok (.getfield 15, 3) := by decide +kernel
theorem d_Tx_append_21 : decode b_Tx_append 21 = .ok (.aload_n 0, 1) := by decide +kernel
theorem d_Tx_append_22 : decode b_Tx_append 22 = .ok (.getfield 18, 3) := by decide +kernel
theorem d_Tx_append_25 : decode b_Tx_append 25 = .ok (.iload_n 2, 1) := by decide +kernel
theorem d_Tx_append_26 : decode b_Tx_append 26 = .ok (.iastore, 1) := by decide +kernel
theorem d_Tx_append_27 : decode b_Tx_append 27 = .ok (.aload_n 0, 1) := by decide +kernel
theorem d_Tx_append_28 : decode b_Tx_append 28 = .ok (.dup, 1) := by decide +kernel
theorem d_Tx_append_29 : decode b_Tx_append 29 = .ok (.getfield 18, 3) := by decide +kernel
theorem d_Tx_append_32 : decode b_Tx_append 32 = .ok (.iconst 1, 1) := by decide +kernel
theorem d_Tx_append_33 : decode b_Tx_append 33 = .ok (.iadd, 1) := by decide +kernel
theorem d_Tx_append_34 : decode b_Tx_append 34 = .ok (.putfield 18, 3) := by decide +kernel
theorem d_Tx_append_37 : decode b_Tx_append 37 = .ok (.aload_n 0, 1) := by decide +kernel
theorem d_Tx_append_38 : decode b_Tx_append 38 = .ok (.getfield 18, 3) := by decide +kernel
theorem d_Tx_append_41 : decode b_Tx_append 41 = .ok (.ireturn, 1) := by decide +kernel
theorem d_Tx_statementAt_0 : decode b_Tx_statementAt 0 = .ok (.aload_n 0, 1) := by decide +kernel
theorem d_Tx_statementAt_1 : decode b_Tx_statementAt 1 = .ok (.iload_n 1, 1) := by decide +kernel
theorem d_Tx_statementAt_2 : decode b_Tx_statementAt 2 = .ok (.invokevirtual 26, 3) := by decide +kernel
theorem d_Tx_statementAt_5 : decode b_Tx_statementAt 5 = .ok (.ifCond .eq 12, 3) := by decide +kernel
theorem d_Tx_statementAt_8 : decode b_Tx_statementAt 8 = .ok (.aload_n 0, 1) := by decide +kernel
theorem d_Tx_statementAt_9 : decode b_Tx_statementAt 9 = .ok (.getfield 9, 3) := by decide +kernel
theorem d_Tx_statementAt_12 : decode b_Tx_statementAt 12 = .ok (.iload_n 1, 1) := by decide +kernel
theorem d_Tx_statementAt_13 : decode b_Tx_statementAt 13 = .ok (.iaload, 1) := by decide +kernel
theorem d_Tx_statementAt_14 : decode b_Tx_statementAt 14 = .ok (.goto 4, 3) := by decide +kernel
theorem d_Tx_statementAt_17 : decode b_Tx_statementAt 17 = .ok (.iconst (-1), 1) := by decide +kernel
theorem d_Tx_statementAt_18 : decode b_Tx_statementAt 18 = .ok (.ireturn, 1) := by decide +kernel
theorem d_Tx_has_0 : decode b_Tx_has 0 = .ok (.iload_n 1, 1) := by decide +kernel
theorem d_Tx_has_1 : decode b_Tx_has 1 = .ok (.ifCond .lt 15, 3) := by decide +kernel
theorem d_Tx_has_4 : decode b_Tx_has 4 = .ok (.iload_n 1, 1) := by decide +kernel
theorem d_Tx_has_5 : decode b_Tx_has 5 = .ok (.aload_n 0, 1) := by decide +kernel
theorem d_Tx_has_6 : decode b_Tx_has 6 = .ok (.getfield 18, 3) := by decide +kernel
theorem d_Tx_has_9 : decode b_Tx_has 9 = .ok (.if_icmp .ge 7, 3) := by decide +kernel
theorem d_Tx_has_12 : decode b_Tx_has 12 = .ok (.iconst 1, 1) := by decide +kernel
theorem d_Tx_has_13 : decode b_Tx_has 13 = .ok (.goto 4, 3) := by decide +kernel
theorem d_Tx_has_16 : decode b_Tx_has 16 = .ok (.iconst 0, 1) := by decide +kernel
theorem d_Tx_has_17 : decode b_Tx_has 17 = .ok (.ireturn, 1) := by decide +kernel
theorem d_Tx_operandAt_0 : decode b_Tx_operandAt 0 = .ok (.aload_n 0, 1) := by decide +kernel
theorem d_Tx_operandAt_1 : decode b_Tx_operandAt 1 = .ok (.iload_n 1, 1) := by decide +kernel
theorem d_Tx_operandAt_2 : decode b_Tx_operandAt 2 = .ok (.invokevirtual 26, 3) := by decide +kernel
theorem d_Tx_operandAt_5 : decode b_Tx_operandAt 5 = .ok (.ifCond .eq 12, 3) := by decide +kernel
theorem d_Tx_operandAt_8 : decode b_Tx_operandAt 8 = .ok (.aload_n 0, 1) := by decide +kernel
theorem d_Tx_operandAt_9 : decode b_Tx_operandAt 9 = .ok (.getfield 15, 3) := by decide +kernel
theorem d_Tx_operandAt_12 : decode b_Tx_operandAt 12 = .ok (.iload_n 1, 1) := by decide +kernel
theorem d_Tx_operandAt_13 : decode b_Tx_operandAt 13 = .ok (.iaload, 1) := by decide +kernel
theorem d_Tx_operandAt_14 : decode b_Tx_operandAt 14 = .ok (.goto 4, 3) := by decide +kernel
theorem d_Tx_operandAt_17 : decode b_Tx_operandAt 17 = .ok (.iconst (-1), 1) := by decide +kernel
theorem d_Tx_operandAt_18 : decode b_Tx_operandAt 18 = .ok (.ireturn, 1) := by decide +kernel
theorem d_Ty_init_0 : decode b_Ty_init 0 = .ok (.aload_n 0, 1) := by decide +kernel
theorem d_Ty_init_1 : decode b_Ty_init 1 = .ok (.invokespecial 3, 3) := by decide +kernel
theorem d_Ty_init_4 : decode b_Ty_init 4 = .ok (.aload_n 0, 1) := by decide +kernel
theorem d_Ty_init_5 : decode b_Ty_init 5 = .ok (.bipush 8, 2) := by decide +kernel
theorem d_Ty_init_7 : decode b_Ty_init 7 = .ok (.newarray .int, 2) := by decide +kernel
theorem d_Ty_init_9 : decode b_Ty_init 9 = .ok (.putfield 9, 3) := by decide +kernel
theorem d_Ty_init_12 : decode b_Ty_init 12 = .ok (.aload_n 0, 1) := by decide +kernel
theorem d_Ty_init_13 : decode b_Ty_init 13 = .ok (.getfield 9, 3) := by decide +kernel
theorem d_Ty_init_16 : decode b_Ty_init 16 = .ok (.iconst 0, 1) := by decide +kernel
theorem d_Ty_init_17 : decode b_Ty_init 17 = .ok (.iconst (-1), 1) := by decide +kernel
theorem d_Ty_init_18 : decode b_Ty_init 18 = .ok (.iastore, 1) := by decide +kernel
theorem d_Ty_init_19 : decode b_Ty_init 19 = .ok (.aload_n 0, 1) := by decide +kernel
theorem d_Ty_init_20 : decode b_Ty_init 20 = .ok (.iconst 1, 1) := by decide +kernel
theorem d_Ty_init_21 : decode b_Ty_init 21 = .ok (.putfield 15, 3) := by decide +kernel
theorem d_Ty_init_24 : decode b_Ty_init 24 = .ok (.return_, 1) := by decide +kernel
theorem d_Ty_has_0 : decode b_Ty_has 0 = .ok (.iload_n 1, 1) := by decide +kernel
theorem d_Ty_has_1 : decode b_Ty_has 1 = .ok (.ifCond .lt 15, 3) := by decide +kernel
theorem d_Ty_has_4 : decode b_Ty_has 4 = .ok (.iload_n 1, 1) := by decide +kernel
theorem d_Ty_has_5 : decode b_Ty_has 5 = .ok (.aload_n 0, 1) := by decide +kernel
theorem d_Ty_has_6 : decode b_Ty_has 6 = .ok (.getfield 15, 3) := by decide +kernel
theorem d_Ty_has_9 : decode b_Ty_has 9 = .ok (.if_icmp .ge 7, 3) := by decide +kernel
theorem d_Ty_has_12 : decode b_Ty_has 12 = .ok (.iconst 1, 1) := by decide +kernel
theorem d_Ty_has_13 : decode b_Ty_has 13 = .ok (.goto 4, 3) := by decide +kernel
theorem d_Ty_has_16 : decode b_Ty_has 16 = .ok (.iconst 0, 1) := by decide +kernel
theorem d_Ty_has_17 : decode b_Ty_has 17 = .ok (.ireturn, 1) := by decide +kernel
theorem d_Ty_isFull_0 : decode b_Ty_isFull 0 = .ok (.aload_n 0, 1) := by decide +kernel
theorem d_Ty_isFull_1 : decode b_Ty_isFull 1 = .ok (.getfield 15, 3) := by decide +kernel
theorem d_Ty_isFull_4 : decode b_Ty_isFull 4 = .ok (.bipush 8, 2) := by decide +kernel
theorem d_Ty_isFull_6 : decode b_Ty_isFull 6 = .ok (.if_icmp .lt 7, 3) := by decide +kernel
theorem d_Ty_isFull_9 : decode b_Ty_isFull 9 = .ok (.iconst 1, 1) := by decide +kernel
theorem d_Ty_isFull_10 : decode b_Ty_isFull 10 = .ok (.goto 4, 3) := by decide +kernel
theorem d_Ty_isFull_13 : decode b_Ty_isFull 13 = .ok (.iconst 0, 1) := by decide +kernel
theorem d_Ty_isFull_14 : decode b_Ty_isFull 14 = .ok (.ireturn, 1) := by decide +kernel
theorem d_Ty_make_0 : decode b_Ty_make 0 = .ok (.aload_n 0, 1) := by decide +kernel
theorem d_Ty_make_1 : decode b_Ty_make 1 = .ok (.invokevirtual 19, 3) := by decide +kernel
