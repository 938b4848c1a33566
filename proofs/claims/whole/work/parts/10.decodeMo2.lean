theorem d_Mo_ends_37 : decode b_Mo_ends 37 = .ok (.iload_n 1, 1) := by decide +kernel
theorem d_Mo_ends_38 : decode b_Mo_ends 38 = .ok (.iconst 4, 1) := by decide +kernel
theorem d_Mo_ends_39 : decode b_Mo_ends 39 = .ok (.aload_n 0, 1) := by decide +kernel
theorem d_Mo_ends_40 : decode b_Mo_ends 40 = .ok (.getfield 116, 3) := by decide +kernel
theorem d_Mo_ends_43 : decode b_Mo_ends 43 = .ok (.ineg, 1) := by decide +kernel
theorem d_Mo_ends_44 : decode b_Mo_ends 44 = .ok (.invokevirtual 135, 3) := by decide +kernel
theorem d_Mo_ends_47 : decode b_Mo_ends 47 = .ok (.aload_n 0, 1) := by decide +kernel
theorem d_Mo_ends_48 : decode b_Mo_ends 48 = .ok (.iload_n 1, 1) := by decide +kernel
theorem d_Mo_ends_49 : decode b_Mo_ends 49 = .ok (.aload_n 0, 1) := by decide +kernel
theorem d_Mo_ends_50 : decode b_Mo_ends 50 = .ok (.getfield 65, 3) := by decide +kernel
theorem d_Mo_ends_53 : decode b_Mo_ends 53 = .ok (.aload_n 0, 1) := by decide +kernel
theorem d_Mo_ends_54 : decode b_Mo_ends 54 = .ok (.getfield 116, 3) := by decide +kernel
theorem d_Mo_ends_57 : decode b_Mo_ends 57 = .ok (.iaload, 1) := by decide +kernel
theorem d_Mo_ends_58 : decode b_Mo_ends 58 = .ok (.invokevirtual 139, 3) := by decide +kernel
theorem d_Mo_ends_61 : decode b_Mo_ends 61 = .ok (.aload_n 0, 1) := by decide +kernel
theorem d_Mo_ends_62 : decode b_Mo_ends 62 = .ok (.iload_n 1, 1) := by decide +kernel
theorem d_Mo_ends_63 : decode b_Mo_ends 63 = .ok (.iconst 5, 1) := by decide +kernel
theorem d_Mo_ends_64 : decode b_Mo_ends 64 = .ok (.aload_n 0, 1) := by decide +kernel
theorem d_Mo_ends_65 : decode b_Mo_ends 65 = .ok (.getfield 77, 3) := by decide +kernel
theorem d_Mo_ends_68 : decode b_Mo_ends 68 = .ok (.aload_n 0, 1) := by decide +kernel
theorem d_Mo_ends_69 : decode b_Mo_ends 69 = .ok (.getfield 116, 3) := by decide +kernel
theorem d_Mo_ends_72 : decode b_Mo_ends 72 = .ok (.iaload, 1) := by decide +kernel
theorem d_Mo_ends_73 : decode b_Mo_ends 73 = .ok (.invokevirtual 135, 3) := by decide +kernel
theorem d_Mo_ends_76 : decode b_Mo_ends 76 = .ok (.aload_n 0, 1) := by decide +kernel
theorem d_Mo_ends_77 : decode b_Mo_ends 77 = .ok (.iload_n 1, 1) := by decide +kernel
theorem d_Mo_ends_78 : decode b_Mo_ends 78 = .ok (.bipush 7, 2) := by decide +kernel
theorem d_Mo_ends_80 : decode b_Mo_ends 80 = .ok (.iconst 0, 1) := by decide +kernel
theorem d_Mo_ends_81 : decode b_Mo_ends 81 = .ok (.invokevirtual 135, 3) := by decide +kernel
theorem d_Mo_ends_84 : decode b_Mo_ends 84 = .ok (.aload_n 0, 1) := by decide +kernel
theorem d_Mo_ends_85 : decode b_Mo_ends 85 = .ok (.iload_n 1, 1) := by decide +kernel
theorem d_Mo_ends_86 : decode b_Mo_ends 86 = .ok (.invokevirtual 146, 3) := by decide +kernel
theorem d_Mo_ends_89 : decode b_Mo_ends 89 = .ok (.return_, 1) := by decide +kernel
theorem d_Mo_closes_0 : decode b_Mo_closes 0 = .ok (.iconst 0, 1) := by decide +kernel
theorem d_Mo_closes_1 : decode b_Mo_closes 1 = .ok (.istore_n 2, 1) := by decide +kernel
theorem d_Mo_closes_2 : decode b_Mo_closes 2 = .ok (.iload_n 2, 1) := by decide +kernel
theorem d_Mo_closes_3 : decode b_Mo_closes 3 = .ok (.aload_n 0, 1) := by decide +kernel
theorem d_Mo_closes_4 : decode b_Mo_closes 4 = .ok (.getfield 26, 3) := by decide +kernel
theorem d_Mo_closes_7 : decode b_Mo_closes 7 = .ok (.iload_n 1, 1) := by decide +kernel
theorem d_Mo_closes_8 : decode b_Mo_closes 8 = .ok (.iaload, 1) := by decide +kernel
theorem d_Mo_closes_9 : decode b_Mo_closes 9 = .ok (.if_icmp .ge 53, 3) := by decide +kernel
theorem d_Mo_closes_12 : decode b_Mo_closes 12 = .ok (.sipush 128, 3) := by decide +kernel
theorem d_Mo_closes_15 : decode b_Mo_closes 15 = .ok (.iload_n 1, 1) := by decide +kernel
theorem d_Mo_closes_16 : decode b_Mo_closes 16 = .ok (.imul, 1) := by decide +kernel
theorem d_Mo_closes_17 : decode b_Mo_closes 17 = .ok (.iload_n 2, 1) := by decide +kernel
theorem d_Mo_closes_18 : decode b_Mo_closes 18 = .ok (.iadd, 1) := by decide +kernel
theorem d_Mo_closes_19 : decode b_Mo_closes 19 = .ok (.istore_n 3, 1) := by decide +kernel
theorem d_Mo_closes_20 : decode b_Mo_closes 20 = .ok (.aload_n 0, 1) := by decide +kernel
theorem d_Mo_closes_21 : decode b_Mo_closes 21 = .ok (.getfield 29, 3) := by decide +kernel
theorem d_Mo_closes_24 : decode b_Mo_closes 24 = .ok (.iload_n 3, 1) := by decide +kernel
theorem d_Mo_closes_25 : decode b_Mo_closes 25 = .ok (.iaload, 1) := by decide +kernel
theorem d_Mo_closes_26 : decode b_Mo_closes 26 = .ok (.iconst 4, 1) := by decide +kernel
theorem d_Mo_closes_27 : decode b_Mo_closes 27 = .ok (.if_icmp .ne 29, 3) := by decide +kernel
theorem d_Mo_closes_30 : decode b_Mo_closes 30 = .ok (.aload_n 0, 1) := by decide +kernel
theorem d_Mo_closes_31 : decode b_Mo_closes 31 = .ok (.getfield 32, 3) := by decide +kernel
theorem d_Mo_closes_34 : decode b_Mo_closes 34 = .ok (.iload_n 3, 1) := by decide +kernel
theorem d_Mo_closes_35 : decode b_Mo_closes 35 = .ok (.iaload, 1) := by decide +kernel
theorem d_Mo_closes_36 : decode b_Mo_closes 36 = .ok (.aload_n 0, 1) := by decide +kernel
theorem d_Mo_closes_37 : decode b_Mo_closes 37 = .ok (.getfield 116, 3) := by decide +kernel
theorem d_Mo_closes_40 : decode b_Mo_closes 40 = .ok (.ineg, 1) := by decide +kernel
theorem d_Mo_closes_41 : decode b_Mo_closes 41 = .ok (.if_icmp .ne 15, 3) := by decide +kernel
theorem d_Mo_closes_44 : decode b_Mo_closes 44 = .ok (.aload_n 0, 1) := by decide +kernel
theorem d_Mo_closes_45 : decode b_Mo_closes 45 = .ok (.getfield 32, 3) := by decide +kernel
theorem d_Mo_closes_48 : decode b_Mo_closes 48 = .ok (.iload_n 3, 1) := by decide +kernel
theorem d_Mo_closes_49 : decode b_Mo_closes 49 = .ok (.aload_n 0, 1) := by decide +kernel
theorem d_Mo_closes_50 : decode b_Mo_closes 50 = .ok (.getfield 26, 3) := by decide +kernel
theorem d_Mo_closes_53 : decode b_Mo_closes 53 = .ok (.iload_n 1, 1) := by decide +kernel
theorem d_Mo_closes_54 : decode b_Mo_closes 54 = .ok (.iaload, 1) := by decide +kernel
theorem d_Mo_closes_55 : decode b_Mo_closes 55 = .ok (.iastore, 1) := by decide +kernel
theorem d_Mo_closes_56 : decode b_Mo_closes 56 = .ok (.iinc 2 1, 3) := by decide +kernel
theorem d_Mo_closes_59 : decode b_Mo_closes 59 = .ok (.goto (-57), 3) := by decide +kernel
theorem d_Mo_closes_62 : decode b_Mo_closes 62 = .ok (.aload_n 0, 1) := by decide +kernel
theorem d_Mo_closes_63 : decode b_Mo_closes 63 = .ok (.dup, 1) := by decide +kernel
theorem d_Mo_closes_64 : decode b_Mo_closes 64 = .ok (.getfield 116, 3) := by decide +kernel
theorem d_Mo_closes_67 : decode b_Mo_closes 67 = .ok (.iconst 1, 1) := by decide +kernel
theorem d_Mo_closes_68 : decode b_Mo_closes 68 = .ok (.isub, 1) := by decide +kernel
theorem d_Mo_closes_69 : decode b_Mo_closes 69 = .ok (.putfield 116, 3) := by decide +kernel
theorem d_Mo_closes_72 : decode b_Mo_closes 72 = .ok (.return_, 1) := by decide +kernel
theorem d_Mo_collectSites_0 : decode b_Mo_collectSites 0 = .ok (.aload_n 0, 1) := by decide +kernel
theorem d_Mo_collectSites_1 : decode b_Mo_collectSites 1 = .ok (.getfield 50, 3) := by decide +kernel
theorem d_Mo_collectSites_4 : decode b_Mo_collectSites 4 = .ok (.iload_n 1, 1) := by decide +kernel
theorem d_Mo_collectSites_5 : decode b_Mo_collectSites 5 = .ok (.iconst 0, 1) := by decide +kernel
theorem d_Mo_collectSites_6 : decode b_Mo_collectSites 6 = .ok (.iastore, 1) := by decide +kernel
theorem d_Mo_collectSites_7 : decode b_Mo_collectSites 7 = .ok (.iconst 0, 1) := by decide +kernel
theorem d_Mo_collectSites_8 : decode b_Mo_collectSites 8 = .ok (.istore_n 2, 1) := by decide +kernel
theorem d_Mo_collectSites_9 : decode b_Mo_collectSites 9 = .ok (.iload_n 2, 1) := by decide +kernel
theorem d_Mo_collectSites_10 : decode b_Mo_collectSites 10 = .ok (.aload_n 0, 1) := by decide +kernel
theorem d_Mo_collectSites_11 : decode b_Mo_collectSites 11 = .ok (.getfield 26, 3) := by decide +kernel
theorem d_Mo_collectSites_14 : decode b_Mo_collectSites 14 = .ok (.iload_n 1, 1) := by decide +kernel
theorem d_Mo_collectSites_15 : decode b_Mo_collectSites 15 = .ok (.iaload, 1) := by decide +kernel
theorem d_Mo_collectSites_16 : decode b_Mo_collectSites 16 = .ok (.if_icmp .ge 139, 3) := by decide +kernel
theorem d_Mo_collectSites_19 : decode b_Mo_collectSites 19 = .ok (.sipush 128, 3) := by decide +kernel
theorem d_Mo_collectSites_22 : decode b_Mo_collectSites 22 = .ok (.iload_n 1, 1) := by decide +kernel
theorem d_Mo_collectSites_23 : decode b_Mo_collectSites 23 = .ok (.imul, 1) := by decide +kernel
theorem d_Mo_collectSites_24 : decode b_Mo_collectSites 24 = .ok (.iload_n 2, 1) := by decide +kernel
theorem d_Mo_collectSites_25 : decode b_Mo_collectSites 25 = .ok (.iadd, 1) := by decide +kernel
theorem d_Mo_collectSites_26 : decode b_Mo_collectSites 26 = .ok (.istore_n 3, 1) := by decide +kernel
theorem d_Mo_collectSites_27 : decode b_Mo_collectSites 27 = .ok (.aload_n 0, 1) := by decide +kernel
theorem d_Mo_collectSites_28 : decode b_Mo_collectSites 28 = .ok (.getfield 29, 3) := by decide +kernel
theorem d_Mo_collectSites_31 : decode b_Mo_collectSites 31 = .ok (.iload_n 3, 1) := by decide +kernel
theorem d_Mo_collectSites_32 : decode b_Mo_collectSites 32 = .ok (.iaload, 1) := by decide +kernel
theorem d_Mo_collectSites_33 : decode b_Mo_collectSites 33 = .ok (.iconst 1, 1) := by decide +kernel
theorem d_Mo_collectSites_34 : decode b_Mo_collectSites 34 = .ok (.if_icmp .eq 23, 3) := by decide +kernel
theorem d_Mo_collectSites_37 : decode b_Mo_collectSites 37 = .ok (.aload_n 0, 1) := by decide +kernel
theorem d_Mo_collectSites_38 : decode b_Mo_collectSites 38 = .ok (.getfield 29, 3) := by decide +kernel
theorem d_Mo_collectSites_41 : decode b_Mo_collectSites 41 = .ok (.iload_n 3, 1) := by decide +kernel
theorem d_Mo_collectSites_42 : decode b_Mo_collectSites 42 = .ok (.iaload, 1) := by decide +kernel
theorem d_Mo_collectSites_43 : decode b_Mo_collectSites 43 = .ok (.iconst 2, 1) := by decide +kernel
theorem d_Mo_collectSites_44 : decode b_Mo_collectSites 44 = .ok (.if_icmp .eq 13, 3) := by decide +kernel
theorem d_Mo_collectSites_47 : decode b_Mo_collectSites 47 = .ok (.aload_n 0, 1) := by decide +kernel
theorem d_Mo_collectSites_48 : decode b_Mo_collectSites 48 = .ok (.getfield 29, 3) := by decide +kernel
theorem d_Mo_collectSites_51 : decode b_Mo_collectSites 51 = .ok (.iload_n 3, 1) := by decide +kernel
theorem d_Mo_collectSites_52 : decode b_Mo_collectSites 52 = .ok (.iaload, 1) := by decide +kernel
theorem d_Mo_collectSites_53 : decode b_Mo_collectSites 53 = .ok (.iconst 3, 1) := by decide +kernel
theorem d_Mo_collectSites_54 : decode b_Mo_collectSites 54 = .ok (.if_icmp .ne 95, 3) := by decide +kernel
theorem d_Mo_collectSites_57 : decode b_Mo_collectSites 57 = .ok (.bipush 64, 2) := by decide +kernel
theorem d_Mo_collectSites_59 : decode b_Mo_collectSites 59 = .ok (.iload_n 1, 1) := by decide +kernel
theorem d_Mo_collectSites_60 : decode b_Mo_collectSites 60 = .ok (.imul, 1) := by decide +kernel
theorem d_Mo_collectSites_61 : decode b_Mo_collectSites 61 = .ok (.aload_n 0, 1) := by decide +kernel
theorem d_Mo_collectSites_62 : decode b_Mo_collectSites 62 = .ok (.getfield 50, 3) := by decide +kernel
theorem d_Mo_collectSites_65 : decode b_Mo_collectSites 65 = .ok (.iload_n 1, 1) := by decide +kernel
theorem d_Mo_collectSites_66 : decode b_Mo_collectSites 66 = .ok (.iaload, 1) := by decide +kernel
theorem d_Mo_collectSites_67 : decode b_Mo_collectSites 67 = .ok (.iadd, 1) := by decide +kernel
theorem d_Mo_collectSites_68 : decode b_Mo_collectSites 68 = .ok (.istore 4, 2) := by decide +kernel
theorem d_Mo_collectSites_70 : decode b_Mo_collectSites 70 = .ok (.aload_n 0, 1) := by decide +kernel
theorem d_Mo_collectSites_71 : decode b_Mo_collectSites 71 = .ok (.getfield 50, 3) := by decide +kernel
theorem d_Mo_collectSites_74 : decode b_Mo_collectSites 74 = .ok (.iload_n 1, 1) := by decide +kernel
theorem d_Mo_collectSites_75 : decode b_Mo_collectSites 75 = .ok (.iaload, 1) := by decide +kernel
theorem d_Mo_collectSites_76 : decode b_Mo_collectSites 76 = .ok (.ifCond .le 34, 3) := by decide +kernel
theorem d_Mo_collectSites_79 : decode b_Mo_collectSites 79 = .ok (.aload_n 0, 1) := by decide +kernel
theorem d_Mo_collectSites_80 : decode b_Mo_collectSites 80 = .ok (.getfield 59, 3) := by decide +kernel
theorem d_Mo_collectSites_83 : decode b_Mo_collectSites 83 = .ok (.iload 4, 2) := by decide +kernel
theorem d_Mo_collectSites_85 : decode b_Mo_collectSites 85 = .ok (.iconst 1, 1) := by decide +kernel
theorem d_Mo_collectSites_86 : decode b_Mo_collectSites 86 = .ok (.isub, 1) := by decide +kernel
theorem d_Mo_collectSites_87 : decode b_Mo_collectSites 87 = .ok (.iaload, 1) := by decide +kernel
theorem d_Mo_collectSites_88 : decode b_Mo_collectSites 88 = .ok (.aload_n 0, 1) := by decide +kernel
theorem d_Mo_collectSites_89 : decode b_Mo_collectSites 89 = .ok (.getfield 35, 3) := by decide +kernel
theorem d_Mo_collectSites_92 : decode b_Mo_collectSites 92 = .ok (.iload_n 3, 1) := by decide +kernel
theorem d_Mo_collectSites_93 : decode b_Mo_collectSites 93 = .ok (.iaload, 1) := by decide +kernel
theorem d_Mo_collectSites_94 : decode b_Mo_collectSites 94 = .ok (.if_icmp .ne 16, 3) := by decide +kernel
theorem d_Mo_collectSites_97 : decode b_Mo_collectSites 97 = .ok (.aload_n 0, 1) := by decide +kernel
theorem d_Mo_collectSites_98 : decode b_Mo_collectSites 98 = .ok (.getfield 56, 3) := by decide +kernel
theorem d_Mo_collectSites_101 : decode b_Mo_collectSites 101 = .ok (.iload 4, 2) := by decide +kernel
theorem d_Mo_collectSites_103 : decode b_Mo_collectSites 103 = .ok (.iconst 1, 1) := by decide +kernel
theorem d_Mo_collectSites_104 : decode b_Mo_collectSites 104 = .ok (.isub, 1) := by decide +kernel
theorem d_Mo_collectSites_105 : decode b_Mo_collectSites 105 = .ok (.iload_n 2, 1) := by decide +kernel
theorem d_Mo_collectSites_106 : decode b_Mo_collectSites 106 = .ok (.iastore, 1) := by decide +kernel
theorem d_Mo_collectSites_107 : decode b_Mo_collectSites 107 = .ok (.goto 42, 3) := by decide +kernel
theorem d_Mo_collectSites_110 : decode b_Mo_collectSites 110 = .ok (.aload_n 0, 1) := by decide +kernel
theorem d_Mo_collectSites_111 : decode b_Mo_collectSites 111 = .ok (.getfield 53, 3) := by decide +kernel
theorem d_Mo_collectSites_114 : decode b_Mo_collectSites 114 = .ok (.iload 4, 2) := by decide +kernel
theorem d_Mo_collectSites_116 : decode b_Mo_collectSites 116 = .ok (.iload_n 2, 1) := by decide +kernel
theorem d_Mo_collectSites_117 : decode b_Mo_collectSites 117 = .ok (.iastore, 1) := by decide +kernel
theorem d_Mo_collectSites_118 : decode b_Mo_collectSites 118 = .ok (.aload_n 0, 1) := by decide +kernel
theorem d_Mo_collectSites_119 : decode b_Mo_collectSites 119 = .ok (.getfield 56, 3) := by decide +kernel
theorem d_Mo_collectSites_122 : decode b_Mo_collectSites 122 = .ok (.iload 4, 2) := by decide +kernel
theorem d_Mo_collectSites_124 : decode b_Mo_collectSites 124 = .ok (.iload_n 2, 1) := by decide +kernel
theorem d_Mo_collectSites_125 : decode b_Mo_collectSites 125 = .ok (.iastore, 1) := by decide +kernel
theorem d_Mo_collectSites_126 : decode b_Mo_collectSites 126 = .ok (.aload_n 0, 1) := by decide +kernel
theorem d_Mo_collectSites_127 : decode b_Mo_collectSites 127 = .ok (.getfield 59, 3) := by decide +kernel
theorem d_Mo_collectSites_130 : decode b_Mo_collectSites 130 = .ok (.iload 4, 2) := by decide +kernel
theorem d_Mo_collectSites_132 : decode b_Mo_collectSites 132 = .ok (.aload_n 0, 1) := by decide +kernel
theorem d_Mo_collectSites_133 : decode b_Mo_collectSites 133 = .ok (.getfield 35, 3) := by decide +kernel
theorem d_Mo_collectSites_136 : decode b_Mo_collectSites 136 = .ok (.iload_n 3, 1) := by decide +kernel
theorem d_Mo_collectSites_137 : decode b_Mo_collectSites 137 = .ok (.iaload, 1) := by decide +kernel
theorem d_Mo_collectSites_138 : decode b_Mo_collectSites 138 = .ok (.iastore, 1) := by decide +kernel
theorem d_Mo_collectSites_139 : decode b_Mo_collectSites 139 = .ok (.aload_n 0, 1) := by decide +kernel
theorem d_Mo_collectSites_140 : decode b_Mo_collectSites 140 = .ok (.getfield 50, 3) := by decide +kernel
theorem d_Mo_collectSites_143 : decode b_Mo_collectSites 143 = .ok (.iload_n 1, 1) := by decide +kernel
theorem d_Mo_collectSites_144 : decode b_Mo_collectSites 144 = .ok (.dup2, 1) := by decide +kernel
theorem d_Mo_collectSites_145 : decode b_Mo_collectSites 145 = .ok (.iaload, 1) := by decide +kernel
theorem d_Mo_collectSites_146 : decode b_Mo_collectSites 146 = .ok (.iconst 1, 1) := by decide +kernel
theorem d_Mo_collectSites_147 : decode b_Mo_collectSites 147 = .ok (.iadd, 1) := by decide +kernel
theorem d_Mo_collectSites_148 : decode b_Mo_collectSites 148 = .ok (.iastore, 1) := by decide +kernel
theorem d_Mo_collectSites_149 : decode b_Mo_collectSites 149 = .ok (.iinc 2 1, 3) := by decide +kernel
theorem d_Mo_collectSites_152 : decode b_Mo_collectSites 152 = .ok (.goto (-143), 3) := by decide +kernel
theorem d_Mo_collectSites_155 : decode b_Mo_collectSites 155 = .ok (.return_, 1) := by decide +kernel
theorem d_Mo_size_0 : decode b_Mo_size 0 = .ok (.aload_n 0, 1) := by decide +kernel
theorem d_Mo_size_1 : decode b_Mo_size 1 = .ok (.iload_n 1, 1) := by decide +kernel
theorem d_Mo_size_2 : decode b_Mo_size 2 = .ok (.iconst 0, 1) := by decide +kernel
theorem d_Mo_size_3 : decode b_Mo_size 3 = .ok (.iconst 5, 1) := by decide +kernel
theorem d_Mo_size_4 : decode b_Mo_size 4 = .ok (.invokestatic 104, 3) := by decide +kernel
theorem d_Mo_size_7 : decode b_Mo_size 7 = .ok (.ifCond .ne 12, 3) := by decide +kernel
theorem d_Mo_size_10 : decode b_Mo_size 10 = .ok (.iload_n 2, 1) := by decide +kernel
theorem d_Mo_size_11 : decode b_Mo_size 11 = .ok (.iconst 0, 1) := by decide +kernel
theorem d_Mo_size_12 : decode b_Mo_size 12 = .ok (.iconst 2, 1) := by decide +kernel
theorem d_Mo_size_13 : decode b_Mo_size 13 = .ok (.invokestatic 104, 3) := by decide +kernel
theorem d_Mo_size_16 : decode b_Mo_size 16 = .ok (.ifCond .eq 7, 3) := by decide +kernel
theorem d_Mo_size_19 : decode b_Mo_size 19 = .ok (.iconst 1, 1) := by decide +kernel
theorem d_Mo_size_20 : decode b_Mo_size 20 = .ok (.goto 4, 3) := by decide +kernel
theorem d_Mo_size_23 : decode b_Mo_size 23 = .ok (.iconst 0, 1) := by decide +kernel
theorem d_Mo_size_24 : decode b_Mo_size 24 = .ok (.iconst 0, 1) := by decide +kernel
theorem d_Mo_size_25 : decode b_Mo_size 25 = .ok (.invokevirtual 108, 3) := by decide +kernel
theorem d_Mo_size_28 : decode b_Mo_size 28 = .ok (.ifCond .eq 5, 3) := by decide +kernel
theorem d_Mo_size_31 : decode b_Mo_size 31 = .ok (.iconst 0, 1) := by decide +kernel
theorem d_Mo_size_32 : decode b_Mo_size 32 = .ok (.ireturn, 1) := by decide +kernel
theorem d_Mo_size_33 : decode b_Mo_size 33 = .ok (.iload_n 2, 1) := by decide +kernel
theorem d_Mo_size_34 : decode b_Mo_size 34 = .ok (.ifCond .ne 12, 3) := by decide +kernel
theorem d_Mo_size_37 : decode b_Mo_size 37 = .ok (.aload_n 0, 1) := by decide +kernel
theorem d_Mo_size_38 : decode b_Mo_size 38 = .ok (.getfield 26, 3) := by decide +kernel
theorem d_Mo_size_41 : decode b_Mo_size 41 = .ok (.iload_n 1, 1) := by decide +kernel
theorem d_Mo_size_42 : decode b_Mo_size 42 = .ok (.iaload, 1) := by decide +kernel
theorem d_Mo_size_43 : decode b_Mo_size 43 = .ok (.goto 23, 3) := by decide +kernel
theorem d_Mo_size_46 : decode b_Mo_size 46 = .ok (.iload_n 2, 1) := by decide +kernel
theorem d_Mo_size_47 : decode b_Mo_size 47 = .ok (.iconst 1, 1) := by decide +kernel
theorem d_Mo_size_48 : decode b_Mo_size 48 = .ok (.if_icmp .ne 12, 3) := by decide +kernel
theorem d_Mo_size_51 : decode b_Mo_size 51 = .ok (.aload_n 0, 1) := by decide +kernel
theorem d_Mo_size_52 : decode b_Mo_size 52 = .ok (.getfield 38, 3) := by decide +kernel
theorem d_Mo_size_55 : decode b_Mo_size 55 = .ok (.iload_n 1, 1) := by decide +kernel
theorem d_Mo_size_56 : decode b_Mo_size 56 = .ok (.iaload, 1) := by decide +kernel
theorem d_Mo_size_57 : decode b_Mo_size 57 = .ok (.goto 9, 3) := by decide +kernel
theorem d_Mo_size_60 : decode b_Mo_size 60 = .ok (.aload_n 0, 1) := by decide +kernel
theorem d_Mo_size_61 : decode b_Mo_size 61 = .ok (.getfield 50, 3) := by decide +kernel
theorem d_Mo_size_64 : decode b_Mo_size 64 = .ok (.iload_n 1, 1) := by decide +kernel
theorem d_Mo_size_65 : decode b_Mo_size 65 = .ok (.iaload, 1) := by decide +kernel
theorem d_Mo_size_66 : decode b_Mo_size 66 = .ok (.ireturn, 1) := by decide +kernel
theorem d_Mo_code_0 : decode b_Mo_code 0 = .ok (.iload_n 1, 1) := by decide +kernel
theorem d_Mo_code_1 : decode b_Mo_code 1 = .ok (.ifCond .lt 36, 3) := by decide +kernel
theorem d_Mo_code_4 : decode b_Mo_code 4 = .ok (.iload_n 1, 1) := by decide +kernel
theorem d_Mo_code_5 : decode b_Mo_code 5 = .ok (.bipush 6, 2) := by decide +kernel
theorem d_Mo_code_7 : decode b_Mo_code 7 = .ok (.if_icmp .ge 30, 3) := by decide +kernel
theorem d_Mo_code_10 : decode b_Mo_code 10 = .ok (.iload_n 2, 1) := by decide +kernel
theorem d_Mo_code_11 : decode b_Mo_code 11 = .ok (.ifCond .lt 26, 3) := by decide +kernel
theorem d_Mo_code_14 : decode b_Mo_code 14 = .ok (.iload_n 2, 1) := by decide +kernel
theorem d_Mo_code_15 : decode b_Mo_code 15 = .ok (.aload_n 0, 1) := by decide +kernel
theorem d_Mo_code_16 : decode b_Mo_code 16 = .ok (.getfield 26, 3) := by decide +kernel
theorem d_Mo_code_19 : decode b_Mo_code 19 = .ok (.iload_n 1, 1) := by decide +kernel
theorem d_Mo_code_20 : decode b_Mo_code 20 = .ok (.iaload, 1) := by decide +kernel
theorem d_Mo_code_21 : decode b_Mo_code 21 = .ok (.if_icmp .ge 16, 3) := by decide +kernel
theorem d_Mo_code_24 : decode b_Mo_code 24 = .ok (.iload_n 3, 1) := by decide +kernel
theorem d_Mo_code_25 : decode b_Mo_code 25 = .ok (.ifCond .eq 8, 3) := by decide +kernel
theorem d_Mo_code_28 : decode b_Mo_code 28 = .ok (.iload_n 3, 1) := by decide +kernel
theorem d_Mo_code_29 : decode b_Mo_code 29 = .ok (.iconst 1, 1) := by decide +kernel
theorem d_Mo_code_30 : decode b_Mo_code 30 = .ok (.if_icmp .ne 7, 3) := by decide +kernel
theorem d_Mo_code_33 : decode b_Mo_code 33 = .ok (.iconst 1, 1) := by decide +kernel
theorem d_Mo_code_34 : decode b_Mo_code 34 = .ok (.goto 4, 3) := by decide +kernel
theorem d_Mo_code_37 : decode b_Mo_code 37 = .ok (.iconst 0, 1) := by decide +kernel
theorem d_Mo_code_38 : decode b_Mo_code 38 = .ok (.istore 4, 2) := by decide +kernel
theorem d_Mo_code_40 : decode b_Mo_code 40 = .ok (.aload_n 0, 1) := by decide +kernel
theorem d_Mo_code_41 : decode b_Mo_code 41 = .ok (.iload 4, 2) := by decide +kernel
theorem d_Mo_code_43 : decode b_Mo_code 43 = .ok (.ifCond .ne 7, 3) := by decide +kernel
theorem d_Mo_code_46 : decode b_Mo_code 46 = .ok (.iconst 1, 1) := by decide +kernel
theorem d_Mo_code_47 : decode b_Mo_code 47 = .ok (.goto 4, 3) := by decide +kernel
theorem d_Mo_code_50 : decode b_Mo_code 50 = .ok (.iconst 0, 1) := by decide +kernel
theorem d_Mo_code_51 : decode b_Mo_code 51 = .ok (.iconst 0, 1) := by decide +kernel
theorem d_Mo_code_52 : decode b_Mo_code 52 = .ok (.invokevirtual 108, 3) := by decide +kernel
theorem d_Mo_code_55 : decode b_Mo_code 55 = .ok (.ifCond .eq 5, 3) := by decide +kernel
theorem d_Mo_code_58 : decode b_Mo_code 58 = .ok (.iconst 0, 1) := by decide +kernel
theorem d_Mo_code_59 : decode b_Mo_code 59 = .ok (.ireturn, 1) := by decide +kernel
theorem d_Mo_code_60 : decode b_Mo_code 60 = .ok (.iload_n 3, 1) := by decide +kernel
theorem d_Mo_code_61 : decode b_Mo_code 61 = .ok (.ifCond .ne 18, 3) := by decide +kernel
theorem d_Mo_code_64 : decode b_Mo_code 64 = .ok (.aload_n 0, 1) := by decide +kernel
theorem d_Mo_code_65 : decode b_Mo_code 65 = .ok (.getfield 29, 3) := by decide +kernel
theorem d_Mo_code_68 : decode b_Mo_code 68 = .ok (.sipush 128, 3) := by decide +kernel
theorem d_Mo_code_71 : decode b_Mo_code 71 = .ok (.iload_n 1, 1) := by decide +kernel
theorem d_Mo_code_72 : decode b_Mo_code 72 = .ok (.imul, 1) := by decide +kernel
theorem d_Mo_code_73 : decode b_Mo_code 73 = .ok (.iload_n 2, 1) := by decide +kernel
theorem d_Mo_code_74 : decode b_Mo_code 74 = .ok (.iadd, 1) := by decide +kernel
theorem d_Mo_code_75 : decode b_Mo_code 75 = .ok (.iaload, 1) := by decide +kernel
theorem d_Mo_code_76 : decode b_Mo_code 76 = .ok (.goto 15, 3) := by decide +kernel
theorem d_Mo_code_79 : decode b_Mo_code 79 = .ok (.aload_n 0, 1) := by decide +kernel
theorem d_Mo_code_80 : decode b_Mo_code 80 = .ok (.getfield 32, 3) := by decide +kernel
theorem d_Mo_code_83 : decode b_Mo_code 83 = .ok (.sipush 128, 3) := by decide +kernel
theorem d_Mo_code_86 : decode b_Mo_code 86 = .ok (.iload_n 1, 1) := by decide +kernel
theorem d_Mo_code_87 : decode b_Mo_code 87 = .ok (.imul, 1) := by decide +kernel
theorem d_Mo_code_88 : decode b_Mo_code 88 = .ok (.iload_n 2, 1) := by decide +kernel
theorem d_Mo_code_89 : decode b_Mo_code 89 = .ok (.iadd, 1) := by decide +kernel
theorem d_Mo_code_90 : decode b_Mo_code 90 = .ok (.iaload, 1) := by decide +kernel
theorem d_Mo_code_91 : decode b_Mo_code 91 = .ok (.ireturn, 1) := by decide +kernel
theorem d_Mo_action_0 : decode b_Mo_action 0 = .ok (.iload_n 1, 1) := by decide +kernel
theorem d_Mo_action_1 : decode b_Mo_action 1 = .ok (.ifCond .lt 36, 3) := by decide +kernel
theorem d_Mo_action_4 : decode b_Mo_action 4 = .ok (.iload_n 1, 1) := by decide +kernel
theorem d_Mo_action_5 : decode b_Mo_action 5 = .ok (.bipush 6, 2) := by decide +kernel
theorem d_Mo_action_7 : decode b_Mo_action 7 = .ok (.if_icmp .ge 30, 3) := by decide +kernel
theorem d_Mo_action_10 : decode b_Mo_action 10 = .ok (.iload_n 2, 1) := by decide +kernel
theorem d_Mo_action_11 : decode b_Mo_action 11 = .ok (.ifCond .lt 26, 3) := by decide +kernel
theorem d_Mo_action_14 : decode b_Mo_action 14 = .ok (.iload_n 2, 1) := by decide +kernel
theorem d_Mo_action_15 : decode b_Mo_action 15 = .ok (.aload_n 0, 1) := by decide +kernel
theorem d_Mo_action_16 : decode b_Mo_action 16 = .ok (.getfield 38, 3) := by decide +kernel
theorem d_Mo_action_19 : decode b_Mo_action 19 = .ok (.iload_n 1, 1) := by decide +kernel
theorem d_Mo_action_20 : decode b_Mo_action 20 = .ok (.iaload, 1) := by decide +kernel
theorem d_Mo_action_21 : decode b_Mo_action 21 = .ok (.if_icmp .ge 16, 3) := by decide +kernel
theorem d_Mo_action_24 : decode b_Mo_action 24 = .ok (.iload_n 3, 1) := by decide +kernel
theorem d_Mo_action_25 : decode b_Mo_action 25 = .ok (.ifCond .lt 12, 3) := by decide +kernel
theorem d_Mo_action_28 : decode b_Mo_action 28 = .ok (.iload_n 3, 1) := by decide +kernel
theorem d_Mo_action_29 : decode b_Mo_action 29 = .ok (.iconst 3, 1) := by decide +kernel
theorem d_Mo_action_30 : decode b_Mo_action 30 = .ok (.if_icmp .ge 7, 3) := by decide +kernel
theorem d_Mo_action_33 : decode b_Mo_action 33 = .ok (.iconst 1, 1) := by decide +kernel
theorem d_Mo_action_34 : decode b_Mo_action 34 = .ok (.goto 4, 3) := by decide +kernel
theorem d_Mo_action_37 : decode b_Mo_action 37 = .ok (.iconst 0, 1) := by decide +kernel
theorem d_Mo_action_38 : decode b_Mo_action 38 = .ok (.istore 4, 2) := by decide +kernel
theorem d_Mo_action_40 : decode b_Mo_action 40 = .ok (.aload_n 0, 1) := by decide +kernel
theorem d_Mo_action_41 : decode b_Mo_action 41 = .ok (.iload 4, 2) := by decide +kernel
theorem d_Mo_action_43 : decode b_Mo_action 43 = .ok (.ifCond .ne 7, 3) := by decide +kernel
theorem d_Mo_action_46 : decode b_Mo_action 46 = .ok (.iconst 1, 1) := by decide +kernel
theorem d_Mo_action_47 : decode b_Mo_action 47 = .ok (.goto 4, 3) := by decide +kernel
theorem d_Mo_action_50 : decode b_Mo_action 50 = .ok (.iconst 0, 1) := by decide +kernel
theorem d_Mo_action_51 : decode b_Mo_action 51 = .ok (.iconst 0, 1) := by decide +kernel
theorem d_Mo_action_52 : decode b_Mo_action 52 = .ok (.invokevirtual 108, 3) := by decide +kernel
theorem d_Mo_action_55 : decode b_Mo_action 55 = .ok (.ifCond .eq 5, 3) := by decide +kernel
theorem d_Mo_action_58 : decode b_Mo_action 58 = .ok (.iconst 0, 1) := by decide +kernel
theorem d_Mo_action_59 : decode b_Mo_action 59 = .ok (.ireturn, 1) := by decide +kernel
theorem d_Mo_action_60 : decode b_Mo_action 60 = .ok (.bipush 48, 2) := by decide +kernel
theorem d_Mo_action_62 : decode b_Mo_action 62 = .ok (.iload_n 1, 1) := by decide +kernel
theorem d_Mo_action_63 : decode b_Mo_action 63 = .ok (.imul, 1) := by decide +kernel
theorem d_Mo_action_64 : decode b_Mo_action 64 = .ok (.iload_n 2, 1) := by decide +kernel
theorem d_Mo_action_65 : decode b_Mo_action 65 = .ok (.iadd, 1) := by decide +kernel
theorem d_Mo_action_66 : decode b_Mo_action 66 = .ok (.istore 5, 2) := by decide +kernel
theorem d_Mo_action_68 : decode b_Mo_action 68 = .ok (.iload_n 3, 1) := by decide +kernel
theorem d_Mo_action_69 : decode b_Mo_action 69 = .ok (.ifCond .ne 13, 3) := by decide +kernel
theorem d_Mo_action_72 : decode b_Mo_action 72 = .ok (.aload_n 0, 1) := by decide +kernel
theorem d_Mo_action_73 : decode b_Mo_action 73 = .ok (.getfield 41, 3) := by decide +kernel
theorem d_Mo_action_76 : decode b_Mo_action 76 = .ok (.iload 5, 2) := by decide +kernel
theorem d_Mo_action_78 : decode b_Mo_action 78 = .ok (.iaload, 1) := by decide +kernel
theorem d_Mo_action_79 : decode b_Mo_action 79 = .ok (.goto 25, 3) := by decide +kernel
theorem d_Mo_action_82 : decode b_Mo_action 82 = .ok (.iload_n 3, 1) := by decide +kernel
theorem d_Mo_action_83 : decode b_Mo_action 83 = .ok (.iconst 1, 1) := by decide +kernel
theorem d_Mo_action_84 : decode b_Mo_action 84 = .ok (.if_icmp .ne 13, 3) := by decide +kernel
theorem d_Mo_action_87 : decode b_Mo_action 87 = .ok (.aload_n 0, 1) := by decide +kernel
theorem d_Mo_action_88 : decode b_Mo_action 88 = .ok (.getfield 44, 3) := by decide +kernel
theorem d_Mo_action_91 : decode b_Mo_action 91 = .ok (.iload 5, 2) := by decide +kernel
theorem d_Mo_action_93 : decode b_Mo_action 93 = .ok (.iaload, 1) := by decide +kernel
theorem d_Mo_action_94 : decode b_Mo_action 94 = .ok (.goto 10, 3) := by decide +kernel
theorem d_Mo_action_97 : decode b_Mo_action 97 = .ok (.aload_n 0, 1) := by decide +kernel
theorem d_Mo_action_98 : decode b_Mo_action 98 = .ok (.getfield 47, 3) := by decide +kernel
theorem d_Mo_action_101 : decode b_Mo_action 101 = .ok (.iload 5, 2) := by decide +kernel
theorem d_Mo_action_103 : decode b_Mo_action 103 = .ok (.iaload, 1) := by decide +kernel
theorem d_Mo_action_104 : decode b_Mo_action 104 = .ok (.ireturn, 1) := by decide +kernel
theorem d_Mo_site_0 : decode b_Mo_site 0 = .ok (.iload_n 1, 1) := by decide +kernel
theorem d_Mo_site_1 : decode b_Mo_site 1 = .ok (.ifCond .lt 36, 3) := by decide +kernel
theorem d_Mo_site_4 : decode b_Mo_site 4 = .ok (.iload_n 1, 1) := by decide +kernel
theorem d_Mo_site_5 : decode b_Mo_site 5 = .ok (.bipush 6, 2) := by decide +kernel
theorem d_Mo_site_7 : decode b_Mo_site 7 = .ok (.if_icmp .ge 30, 3) := by decide +kernel
theorem d_Mo_site_10 : decode b_Mo_site 10 = .ok (.iload_n 2, 1) := by decide +kernel
theorem d_Mo_site_11 : decode b_Mo_site 11 = .ok (.ifCond .lt 26, 3) := by decide +kernel
theorem d_Mo_site_14 : decode b_Mo_site 14 = .ok (.iload_n 2, 1) := by decide +kernel
theorem d_Mo_site_15 : decode b_Mo_site 15 = .ok (.aload_n 0, 1) := by decide +kernel
theorem d_Mo_site_16 : decode b_Mo_site 16 = .ok (.getfield 50, 3) := by decide +kernel
theorem d_Mo_site_19 : decode b_Mo_site 19 = .ok (.iload_n 1, 1) := by decide +kernel
theorem d_Mo_site_20 : decode b_Mo_site 20 = .ok (.iaload, 1) := by decide +kernel
theorem d_Mo_site_21 : decode b_Mo_site 21 = .ok (.if_icmp .ge 16, 3) := by decide +kernel
theorem d_Mo_site_24 : decode b_Mo_site 24 = .ok (.iload_n 3, 1) := by decide +kernel
theorem d_Mo_site_25 : decode b_Mo_site 25 = .ok (.ifCond .lt 12, 3) := by decide +kernel
theorem d_Mo_site_28 : decode b_Mo_site 28 = .ok (.iload_n 3, 1) := by decide +kernel
theorem d_Mo_site_29 : decode b_Mo_site 29 = .ok (.iconst 3, 1) := by decide +kernel
theorem d_Mo_site_30 : decode b_Mo_site 30 = .ok (.if_icmp .ge 7, 3) := by decide +kernel
theorem d_Mo_site_33 : decode b_Mo_site 33 = .ok (.iconst 1, 1) := by decide +kernel
theorem d_Mo_site_34 : decode b_Mo_site 34 = .ok (.goto 4, 3) := by decide +kernel
theorem d_Mo_site_37 : decode b_Mo_site 37 = .ok (.iconst 0, 1) := by decide +kernel
theorem d_Mo_site_38 : decode b_Mo_site 38 = .ok (.istore 4, 2) := by decide +kernel
theorem d_Mo_site_40 : decode b_Mo_site 40 = .ok (.aload_n 0, 1) := by decide +kernel
theorem d_Mo_site_41 : decode b_Mo_site 41 = .ok (.iload 4, 2) := by decide +kernel
theorem d_Mo_site_43 : decode b_Mo_site 43 = .ok (.ifCond .ne 7, 3) := by decide +kernel
theorem d_Mo_site_46 : decode b_Mo_site 46 = .ok (.iconst 1, 1) := by decide +kernel
theorem d_Mo_site_47 : decode b_Mo_site 47 = .ok (.goto 4, 3) := by decide +kernel
theorem d_Mo_site_50 : decode b_Mo_site 50 = .ok (.iconst 0, 1) := by decide +kernel
theorem d_Mo_site_51 : decode b_Mo_site 51 = .ok (.iconst 0, 1) := by decide +kernel
theorem d_Mo_site_52 : decode b_Mo_site 52 = .ok (.invokevirtual 108, 3) := by decide +kernel
theorem d_Mo_site_55 : decode b_Mo_site 55 = .ok (.ifCond .eq 5, 3) := by decide +kernel
theorem d_Mo_site_58 : decode b_Mo_site 58 = .ok (.iconst 0, 1) := by decide +kernel
theorem d_Mo_site_59 : decode b_Mo_site 59 = .ok (.ireturn, 1) := by decide +kernel
theorem d_Mo_site_60 : decode b_Mo_site 60 = .ok (.bipush 64, 2) := by decide +kernel
theorem d_Mo_site_62 : decode b_Mo_site 62 = .ok (.iload_n 1, 1) := by decide +kernel
theorem d_Mo_site_63 : decode b_Mo_site 63 = .ok (.imul, 1) := by decide +kernel
theorem d_Mo_site_64 : decode b_Mo_site 64 = .ok (.iload_n 2, 1) := by decide +kernel
theorem d_Mo_site_65 : decode b_Mo_site 65 = .ok (.iadd, 1) := by decide +kernel
theorem d_Mo_site_66 : decode b_Mo_site 66 = .ok (.istore 5, 2) := by decide +kernel
theorem d_Mo_site_68 : decode b_Mo_site 68 = .ok (.iload_n 3, 1) := by decide +kernel
theorem d_Mo_site_69 : decode b_Mo_site 69 = .ok (.ifCond .ne 13, 3) := by decide +kernel
theorem d_Mo_site_72 : decode b_Mo_site 72 = .ok (.aload_n 0, 1) := by decide +kernel
theorem d_Mo_site_73 : decode b_Mo_site 73 = .ok (.getfield 53, 3) := by decide +kernel
theorem d_Mo_site_76 : decode b_Mo_site 76 = .ok (.iload 5, 2) := by decide +kernel
theorem d_Mo_site_78 : decode b_Mo_site 78 = .ok (.iaload, 1) := by decide +kernel
theorem d_Mo_site_79 : decode b_Mo_site 79 = .ok (.goto 25, 3) := by decide +kernel
theorem d_Mo_site_82 : decode b_Mo_site 82 = .ok (.iload_n 3, 1) := by decide +kernel
theorem d_Mo_site_83 : decode b_Mo_site 83 = .ok (.iconst 1, 1) := by decide +kernel
theorem d_Mo_site_84 : decode b_Mo_site 84 = .ok (.if_icmp .ne 13, 3) := by decide +kernel
theorem d_Mo_site_87 : decode b_Mo_site 87 = .ok (.aload_n 0, 1) := by decide +kernel
theorem d_Mo_site_88 : decode b_Mo_site 88 = .ok (.getfield 56, 3) := by decide +kernel
theorem d_Mo_site_91 : decode b_Mo_site 91 = .ok (.iload 5, 2) := by decide +kernel
theorem d_Mo_site_93 : decode b_Mo_site 93 = .ok (.iaload, 1) := by decide +kernel
theorem d_Mo_site_94 : decode b_Mo_site 94 = .ok (.goto 10, 3) := by decide +kernel
theorem d_Mo_site_97 : decode b_Mo_site 97 = .ok (.aload_n 0, 1) := by decide +kernel
theorem d_Mo_site_98 : decode b_Mo_site 98 = .ok (.getfield 59, 3) := by decide +kernel
theorem d_Mo_site_101 : decode b_Mo_site 101 = .ok (.iload 5, 2) := by decide +kernel
theorem d_Mo_site_103 : decode b_Mo_site 103 = .ok (.iaload, 1) := by decide +kernel
theorem d_Mo_site_104 : decode b_Mo_site 104 = .ok (.ireturn, 1) := by decide +kernel
theorem d_Mo_run_0 : decode b_Mo_run 0 = .ok (.iload_n 1, 1) := by decide +kernel
theorem d_Mo_run_1 : decode b_Mo_run 1 = .ok (.iconst 0, 1) := by decide +kernel
theorem d_Mo_run_2 : decode b_Mo_run 2 = .ok (.iconst 5, 1) := by decide +kernel
theorem d_Mo_run_3 : decode b_Mo_run 3 = .ok (.invokestatic 104, 3) := by decide +kernel
theorem d_Mo_run_6 : decode b_Mo_run 6 = .ok (.istore_n 2, 1) := by decide +kernel
theorem d_Mo_run_7 : decode b_Mo_run 7 = .ok (.aload_n 0, 1) := by decide +kernel
theorem d_Mo_run_8 : decode b_Mo_run 8 = .ok (.iload_n 2, 1) := by decide +kernel
theorem d_Mo_run_9 : decode b_Mo_run 9 = .ok (.iload_n 2, 1) := by decide +kernel
theorem d_Mo_run_10 : decode b_Mo_run 10 = .ok (.ifCond .ne 16, 3) := by decide +kernel
theorem d_Mo_run_13 : decode b_Mo_run 13 = .ok (.aload_n 0, 1) := by decide +kernel
theorem d_Mo_run_14 : decode b_Mo_run 14 = .ok (.getfield 26, 3) := by decide +kernel
theorem d_Mo_run_17 : decode b_Mo_run 17 = .ok (.iload_n 1, 1) := by decide +kernel
theorem d_Mo_run_18 : decode b_Mo_run 18 = .ok (.iaload, 1) := by decide +kernel
theorem d_Mo_run_19 : decode b_Mo_run 19 = .ok (.ifCond .ne 7, 3) := by decide +kernel
theorem d_Mo_run_22 : decode b_Mo_run 22 = .ok (.iconst 1, 1) := by decide +kernel
theorem d_Mo_run_23 : decode b_Mo_run 23 = .ok (.goto 4, 3) := by decide +kernel
theorem d_Mo_run_26 : decode b_Mo_run 26 = .ok (.iconst 0, 1) := by decide +kernel
theorem d_Mo_run_27 : decode b_Mo_run 27 = .ok (.invokevirtual 108, 3) := by decide +kernel
theorem d_Mo_run_30 : decode b_Mo_run 30 = .ok (.ifCond .eq 5, 3) := by decide +kernel
theorem d_Mo_run_33 : decode b_Mo_run 33 = .ok (.iconst 0, 1) := by decide +kernel
theorem d_Mo_run_34 : decode b_Mo_run 34 = .ok (.ireturn, 1) := by decide +kernel
theorem d_Mo_run_35 : decode b_Mo_run 35 = .ok (.iconst 0, 1) := by decide +kernel
theorem d_Mo_run_36 : decode b_Mo_run 36 = .ok (.istore_n 3, 1) := by decide +kernel
theorem d_Mo_run_37 : decode b_Mo_run 37 = .ok (.iload_n 3, 1) := by decide +kernel
theorem d_Mo_run_38 : decode b_Mo_run 38 = .ok (.bipush 6, 2) := by decide +kernel
theorem d_Mo_run_40 : decode b_Mo_run 40 = .ok (.if_icmp .ge 25, 3) := by decide +kernel
theorem d_Mo_run_43 : decode b_Mo_run 43 = .ok (.aload_n 0, 1) := by decide +kernel
theorem d_Mo_run_44 : decode b_Mo_run 44 = .ok (.getfield 95, 3) := by decide +kernel
theorem d_Mo_run_47 : decode b_Mo_run 47 = .ok (.iload_n 3, 1) := by decide +kernel
theorem d_Mo_run_48 : decode b_Mo_run 48 = .ok (.iload_n 3, 1) := by decide +kernel
theorem d_Mo_run_49 : decode b_Mo_run 49 = .ok (.iconst 5, 1) := by decide +kernel
theorem d_Mo_run_50 : decode b_Mo_run 50 = .ok (.if_icmp .ne 7, 3) := by decide +kernel
theorem d_Mo_run_53 : decode b_Mo_run 53 = .ok (.iconst (-1), 1) := by decide +kernel
theorem d_Mo_run_54 : decode b_Mo_run 54 = .ok (.goto 4, 3) := by decide +kernel
theorem d_Mo_run_57 : decode b_Mo_run 57 = .ok (.iconst 0, 1) := by decide +kernel
theorem d_Mo_run_58 : decode b_Mo_run 58 = .ok (.iastore, 1) := by decide +kernel
theorem d_Mo_run_59 : decode b_Mo_run 59 = .ok (.iinc 3 1, 3) := by decide +kernel
theorem d_Mo_run_62 : decode b_Mo_run 62 = .ok (.goto (-25), 3) := by decide +kernel
theorem d_Mo_run_65 : decode b_Mo_run 65 = .ok (.aload_n 0, 1) := by decide +kernel
theorem d_Mo_run_66 : decode b_Mo_run 66 = .ok (.iconst 0, 1) := by decide +kernel
theorem d_Mo_run_67 : decode b_Mo_run 67 = .ok (.putfield 164, 3) := by decide +kernel
theorem d_Mo_run_70 : decode b_Mo_run 70 = .ok (.aload_n 0, 1) := by decide +kernel
theorem d_Mo_run_71 : decode b_Mo_run 71 = .ok (.iconst (-1), 1) := by decide +kernel
theorem d_Mo_run_72 : decode b_Mo_run 72 = .ok (.putfield 189, 3) := by decide +kernel
theorem d_Mo_run_75 : decode b_Mo_run 75 = .ok (.aload_n 0, 1) := by decide +kernel
theorem d_Mo_run_76 : decode b_Mo_run 76 = .ok (.iload_n 1, 1) := by decide +kernel
theorem d_Mo_run_77 : decode b_Mo_run 77 = .ok (.invokevirtual 195, 3) := by decide +kernel
theorem d_Mo_run_80 : decode b_Mo_run 80 = .ok (.aload_n 0, 1) := by decide +kernel
theorem d_Mo_run_81 : decode b_Mo_run 81 = .ok (.getfield 189, 3) := by decide +kernel
theorem d_Mo_run_84 : decode b_Mo_run 84 = .ok (.ifCond .ge 40, 3) := by decide +kernel
theorem d_Mo_run_87 : decode b_Mo_run 87 = .ok (.aload_n 0, 1) := by decide +kernel
theorem d_Mo_run_88 : decode b_Mo_run 88 = .ok (.getfield 95, 3) := by decide +kernel
theorem d_Mo_run_91 : decode b_Mo_run 91 = .ok (.iconst 1, 1) := by decide +kernel
theorem d_Mo_run_92 : decode b_Mo_run 92 = .ok (.iaload, 1) := by decide +kernel
theorem d_Mo_run_93 : decode b_Mo_run 93 = .ok (.sipush 300, 3) := by decide +kernel
theorem d_Mo_run_96 : decode b_Mo_run 96 = .ok (.if_icmp .ne 11, 3) := by decide +kernel
theorem d_Mo_run_99 : decode b_Mo_run 99 = .ok (.aload_n 0, 1) := by decide +kernel
theorem d_Mo_run_100 : decode b_Mo_run 100 = .ok (.iconst 3, 1) := by decide +kernel
theorem d_Mo_run_101 : decode b_Mo_run 101 = .ok (.putfield 189, 3) := by decide +kernel
theorem d_Mo_run_104 : decode b_Mo_run 104 = .ok (.goto (-24), 3) := by decide +kernel
theorem d_Mo_run_107 : decode b_Mo_run 107 = .ok (.aload_n 0, 1) := by decide +kernel
theorem d_Mo_run_108 : decode b_Mo_run 108 = .ok (.getfield 95, 3) := by decide +kernel
theorem d_Mo_run_111 : decode b_Mo_run 111 = .ok (.iconst 1, 1) := by decide +kernel
theorem d_Mo_run_112 : decode b_Mo_run 112 = .ok (.dup2, 1) := by decide +kernel
theorem d_Mo_run_113 : decode b_Mo_run 113 = .ok (.iaload, 1) := by decide +kernel
theorem d_Mo_run_114 : decode b_Mo_run 114 = .ok (.iconst 1, 1) := by decide +kernel
theorem d_Mo_run_115 : decode b_Mo_run 115 = .ok (.iadd, 1) := by decide +kernel
theorem d_Mo_run_116 : decode b_Mo_run 116 = .ok (.iastore, 1) := by decide +kernel
theorem d_Mo_run_117 : decode b_Mo_run 117 = .ok (.aload_n 0, 1) := by decide +kernel
theorem d_Mo_run_118 : decode b_Mo_run 118 = .ok (.invokevirtual 207, 3) := by decide +kernel
theorem d_Mo_run_121 : decode b_Mo_run 121 = .ok (.goto (-41), 3) := by decide +kernel
theorem d_Mo_run_124 : decode b_Mo_run 124 = .ok (.aload_n 0, 1) := by decide +kernel
theorem d_Mo_run_125 : decode b_Mo_run 125 = .ok (.getfield 189, 3) := by decide +kernel
theorem d_Mo_run_128 : decode b_Mo_run 128 = .ok (.ireturn, 1) := by decide +kernel
theorem d_Mo_enters_0 : decode b_Mo_enters 0 = .ok (.aload_n 0, 1) := by decide +kernel
theorem d_Mo_enters_1 : decode b_Mo_enters 1 = .ok (.getfield 80, 3) := by decide +kernel
theorem d_Mo_enters_4 : decode b_Mo_enters 4 = .ok (.aload_n 0, 1) := by decide +kernel
theorem d_Mo_enters_5 : decode b_Mo_enters 5 = .ok (.getfield 164, 3) := by decide +kernel
theorem d_Mo_enters_8 : decode b_Mo_enters 8 = .ok (.iload_n 1, 1) := by decide +kernel
theorem d_Mo_enters_9 : decode b_Mo_enters 9 = .ok (.iastore, 1) := by decide +kernel
theorem d_Mo_enters_10 : decode b_Mo_enters 10 = .ok (.aload_n 0, 1) := by decide +kernel
theorem d_Mo_enters_11 : decode b_Mo_enters 11 = .ok (.getfield 83, 3) := by decide +kernel
theorem d_Mo_enters_14 : decode b_Mo_enters 14 = .ok (.aload_n 0, 1) := by decide +kernel
theorem d_Mo_enters_15 : decode b_Mo_enters 15 = .ok (.getfield 164, 3) := by decide +kernel
theorem d_Mo_enters_18 : decode b_Mo_enters 18 = .ok (.iconst 0, 1) := by decide +kernel
theorem d_Mo_enters_19 : decode b_Mo_enters 19 = .ok (.iastore, 1) := by decide +kernel
theorem d_Mo_enters_20 : decode b_Mo_enters 20 = .ok (.aload_n 0, 1) := by decide +kernel
theorem d_Mo_enters_21 : decode b_Mo_enters 21 = .ok (.getfield 86, 3) := by decide +kernel
theorem d_Mo_enters_24 : decode b_Mo_enters 24 = .ok (.aload_n 0, 1) := by decide +kernel
theorem d_Mo_enters_25 : decode b_Mo_enters 25 = .ok (.getfield 164, 3) := by decide +kernel
theorem d_Mo_enters_28 : decode b_Mo_enters 28 = .ok (.iconst 0, 1) := by decide +kernel
theorem d_Mo_enters_29 : decode b_Mo_enters 29 = .ok (.iastore, 1) := by decide +kernel
theorem d_Mo_enters_30 : decode b_Mo_enters 30 = .ok (.aload_n 0, 1) := by decide +kernel
theorem d_Mo_enters_31 : decode b_Mo_enters 31 = .ok (.getfield 89, 3) := by decide +kernel
theorem d_Mo_enters_34 : decode b_Mo_enters 34 = .ok (.aload_n 0, 1) := by decide +kernel
theorem d_Mo_enters_35 : decode b_Mo_enters 35 = .ok (.getfield 164, 3) := by decide +kernel
theorem d_Mo_enters_38 : decode b_Mo_enters 38 = .ok (.iconst 0, 1) := by decide +kernel
theorem d_Mo_enters_39 : decode b_Mo_enters 39 = .ok (.iastore, 1) := by decide +kernel
theorem d_Mo_enters_40 : decode b_Mo_enters 40 = .ok (.aload_n 0, 1) := by decide +kernel
theorem d_Mo_enters_41 : decode b_Mo_enters 41 = .ok (.dup, 1) := by decide +kernel
theorem d_Mo_enters_42 : decode b_Mo_enters 42 = .ok (.getfield 164, 3) := by decide +kernel
theorem d_Mo_enters_45 : decode b_Mo_enters 45 = .ok (.iconst 1, 1) := by decide +kernel
theorem d_Mo_enters_46 : decode b_Mo_enters 46 = .ok (.iadd, 1) := by decide +kernel
theorem d_Mo_enters_47 : decode b_Mo_enters 47 = .ok (.putfield 164, 3) := by decide +kernel
theorem d_Mo_enters_50 : decode b_Mo_enters 50 = .ok (.aload_n 0, 1) := by decide +kernel
theorem d_Mo_enters_51 : decode b_Mo_enters 51 = .ok (.getfield 164, 3) := by decide +kernel
theorem d_Mo_enters_54 : decode b_Mo_enters 54 = .ok (.aload_n 0, 1) := by decide +kernel
theorem d_Mo_enters_55 : decode b_Mo_enters 55 = .ok (.getfield 95, 3) := by decide +kernel
theorem d_Mo_enters_58 : decode b_Mo_enters 58 = .ok (.iconst 4, 1) := by decide +kernel
theorem d_Mo_enters_59 : decode b_Mo_enters 59 = .ok (.iaload, 1) := by decide +kernel
theorem d_Mo_enters_60 : decode b_Mo_enters 60 = .ok (.if_icmp .le 13, 3) := by decide +kernel
theorem d_Mo_enters_63 : decode b_Mo_enters 63 = .ok (.aload_n 0, 1) := by decide +kernel
theorem d_Mo_enters_64 : decode b_Mo_enters 64 = .ok (.getfield 95, 3) := by decide +kernel
theorem d_Mo_enters_67 : decode b_Mo_enters 67 = .ok (.iconst 4, 1) := by decide +kernel
