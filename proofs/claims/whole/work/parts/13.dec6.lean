theorem dX6_init_0 : decode cX6_init 0 = .ok (.aload_n 0, 1) := by decide +kernel
theorem dX6_init_1 : decode cX6_init 1 = .ok (.invokespecial 3, 3) := by decide +kernel
theorem dX6_init_4 : decode cX6_init 4 = .ok (.aload_n 0, 1) := by decide +kernel
theorem dX6_init_5 : decode cX6_init 5 = .ok (.sipush 745, 3) := by decide +kernel
theorem dX6_init_8 : decode cX6_init 8 = .ok (.newarray .int, 2) := by decide +kernel
theorem dX6_init_10 : decode cX6_init 10 = .ok (.putfield 9, 3) := by decide +kernel
theorem dX6_init_13 : decode cX6_init 13 = .ok (.aload_n 0, 1) := by decide +kernel
theorem dX6_init_14 : decode cX6_init 14 = .ok (.sipush 5960, 3) := by decide +kernel
theorem dX6_init_17 : decode cX6_init 17 = .ok (.newarray .int, 2) := by decide +kernel
theorem dX6_init_19 : decode cX6_init 19 = .ok (.putfield 13, 3) := by decide +kernel
theorem dX6_init_22 : decode cX6_init 22 = .ok (.aload_n 0, 1) := by decide +kernel
theorem dX6_init_23 : decode cX6_init 23 = .ok (.sipush 745, 3) := by decide +kernel
theorem dX6_init_26 : decode cX6_init 26 = .ok (.newarray .int, 2) := by decide +kernel
theorem dX6_init_28 : decode cX6_init 28 = .ok (.putfield 16, 3) := by decide +kernel
theorem dX6_init_31 : decode cX6_init 31 = .ok (.aload_n 0, 1) := by decide +kernel
theorem dX6_init_32 : decode cX6_init 32 = .ok (.sipush 745, 3) := by decide +kernel
theorem dX6_init_35 : decode cX6_init 35 = .ok (.newarray .int, 2) := by decide +kernel
theorem dX6_init_37 : decode cX6_init 37 = .ok (.putfield 19, 3) := by decide +kernel
theorem dX6_init_40 : decode cX6_init 40 = .ok (.aload_n 0, 1) := by decide +kernel
theorem dX6_init_41 : decode cX6_init 41 = .ok (.bipush 80, 2) := by decide +kernel
theorem dX6_init_43 : decode cX6_init 43 = .ok (.newarray .int, 2) := by decide +kernel
theorem dX6_init_45 : decode cX6_init 45 = .ok (.putfield 22, 3) := by decide +kernel
theorem dX6_init_48 : decode cX6_init 48 = .ok (.aload_n 0, 1) := by decide +kernel
theorem dX6_init_49 : decode cX6_init 49 = .ok (.bipush 80, 2) := by decide +kernel
theorem dX6_init_51 : decode cX6_init 51 = .ok (.newarray .int, 2) := by decide +kernel
theorem dX6_init_53 : decode cX6_init 53 = .ok (.putfield 25, 3) := by decide +kernel
theorem dX6_init_56 : decode cX6_init 56 = .ok (.aload_n 0, 1) := by decide +kernel
theorem dX6_init_57 : decode cX6_init 57 = .ok (.bipush 8, 2) := by decide +kernel
theorem dX6_init_59 : decode cX6_init 59 = .ok (.newarray .int, 2) := by decide +kernel
theorem dX6_init_61 : decode cX6_init 61 = .ok (.putfield 28, 3) := by decide +kernel
theorem dX6_init_64 : decode cX6_init 64 = .ok (.aload_n 0, 1) := by decide +kernel
theorem dX6_init_65 : decode cX6_init 65 = .ok (.bipush 8, 2) := by decide +kernel
theorem dX6_init_67 : decode cX6_init 67 = .ok (.newarray .int, 2) := by decide +kernel
theorem dX6_init_69 : decode cX6_init 69 = .ok (.putfield 31, 3) := by decide +kernel
theorem dX6_init_72 : decode cX6_init 72 = .ok (.aload_n 0, 1) := by decide +kernel
theorem dX6_init_73 : decode cX6_init 73 = .ok (.iconst 4, 1) := by decide +kernel
theorem dX6_init_74 : decode cX6_init 74 = .ok (.newarray .int, 2) := by decide +kernel
theorem dX6_init_76 : decode cX6_init 76 = .ok (.putfield 34, 3) := by decide +kernel
theorem dX6_init_79 : decode cX6_init 79 = .ok (.aload_n 0, 1) := by decide +kernel
theorem dX6_init_80 : decode cX6_init 80 = .ok (.iconst 4, 1) := by decide +kernel
theorem dX6_init_81 : decode cX6_init 81 = .ok (.newarray .boolean, 2) := by decide +kernel
theorem dX6_init_83 : decode cX6_init 83 = .ok (.putfield 37, 3) := by decide +kernel
theorem dX6_init_86 : decode cX6_init 86 = .ok (.aload_n 0, 1) := by decide +kernel
theorem dX6_init_87 : decode cX6_init 87 = .ok (.bipush 20, 2) := by decide +kernel
theorem dX6_init_89 : decode cX6_init 89 = .ok (.newarray .int, 2) := by decide +kernel
theorem dX6_init_91 : decode cX6_init 91 = .ok (.putfield 41, 3) := by decide +kernel
theorem dX6_init_94 : decode cX6_init 94 = .ok (.aload_n 0, 1) := by decide +kernel
theorem dX6_init_95 : decode cX6_init 95 = .ok (.bipush 20, 2) := by decide +kernel
theorem dX6_init_97 : decode cX6_init 97 = .ok (.newarray .int, 2) := by decide +kernel
theorem dX6_init_99 : decode cX6_init 99 = .ok (.putfield 44, 3) := by decide +kernel
theorem dX6_init_102 : decode cX6_init 102 = .ok (.aload_n 0, 1) := by decide +kernel
theorem dX6_init_103 : decode cX6_init 103 = .ok (.bipush 20, 2) := by decide +kernel
theorem dX6_init_105 : decode cX6_init 105 = .ok (.newarray .int, 2) := by decide +kernel
theorem dX6_init_107 : decode cX6_init 107 = .ok (.putfield 47, 3) := by decide +kernel
theorem dX6_init_110 : decode cX6_init 110 = .ok (.aload_n 0, 1) := by decide +kernel
theorem dX6_init_111 : decode cX6_init 111 = .ok (.getfield 9, 3) := by decide +kernel
theorem dX6_init_114 : decode cX6_init 114 = .ok (.iconst 0, 1) := by decide +kernel
theorem dX6_init_115 : decode cX6_init 115 = .ok (.bipush 40, 2) := by decide +kernel
theorem dX6_init_117 : decode cX6_init 117 = .ok (.iastore, 1) := by decide +kernel
theorem dX6_init_118 : decode cX6_init 118 = .ok (.aload_n 0, 1) := by decide +kernel
theorem dX6_init_119 : decode cX6_init 119 = .ok (.getfield 9, 3) := by decide +kernel
theorem dX6_init_122 : decode cX6_init 122 = .ok (.iconst 1, 1) := by decide +kernel
theorem dX6_init_123 : decode cX6_init 123 = .ok (.bipush 30, 2) := by decide +kernel
theorem dX6_init_125 : decode cX6_init 125 = .ok (.iastore, 1) := by decide +kernel
theorem dX6_init_126 : decode cX6_init 126 = .ok (.aload_n 0, 1) := by decide +kernel
theorem dX6_init_127 : decode cX6_init 127 = .ok (.getfield 9, 3) := by decide +kernel
theorem dX6_init_130 : decode cX6_init 130 = .ok (.iconst 2, 1) := by decide +kernel
theorem dX6_init_131 : decode cX6_init 131 = .ok (.iconst 2, 1) := by decide +kernel
theorem dX6_init_132 : decode cX6_init 132 = .ok (.iastore, 1) := by decide +kernel
theorem dX6_init_133 : decode cX6_init 133 = .ok (.aload_n 0, 1) := by decide +kernel
theorem dX6_init_134 : decode cX6_init 134 = .ok (.getfield 9, 3) := by decide +kernel
theorem dX6_init_137 : decode cX6_init 137 = .ok (.iconst 3, 1) := by decide +kernel
theorem dX6_init_138 : decode cX6_init 138 = .ok (.iconst 2, 1) := by decide +kernel
theorem dX6_init_139 : decode cX6_init 139 = .ok (.iastore, 1) := by decide +kernel
theorem dX6_init_140 : decode cX6_init 140 = .ok (.aload_n 0, 1) := by decide +kernel
theorem dX6_init_141 : decode cX6_init 141 = .ok (.getfield 9, 3) := by decide +kernel
theorem dX6_init_144 : decode cX6_init 144 = .ok (.iconst 4, 1) := by decide +kernel
theorem dX6_init_145 : decode cX6_init 145 = .ok (.bipush 40, 2) := by decide +kernel
theorem dX6_init_147 : decode cX6_init 147 = .ok (.iastore, 1) := by decide +kernel
theorem dX6_init_148 : decode cX6_init 148 = .ok (.return_, 1) := by decide +kernel
theorem dX6_in_0 : decode cX6_in 0 = .ok (.iload_n 0, 1) := by decide +kernel
theorem dX6_in_1 : decode cX6_in 1 = .ok (.iload_n 1, 1) := by decide +kernel
theorem dX6_in_2 : decode cX6_in 2 = .ok (.if_icmp .lt 12, 3) := by decide +kernel
theorem dX6_in_5 : decode cX6_in 5 = .ok (.iload_n 0, 1) := by decide +kernel
theorem dX6_in_6 : decode cX6_in 6 = .ok (.iload_n 2, 1) := by decide +kernel
theorem dX6_in_7 : decode cX6_in 7 = .ok (.if_icmp .gt 7, 3) := by decide +kernel
theorem dX6_in_10 : decode cX6_in 10 = .ok (.iconst 1, 1) := by decide +kernel
theorem dX6_in_11 : decode cX6_in 11 = .ok (.goto 4, 3) := by decide +kernel
theorem dX6_in_14 : decode cX6_in 14 = .ok (.iconst 0, 1) := by decide +kernel
theorem dX6_in_15 : decode cX6_in 15 = .ok (.ireturn, 1) := by decide +kernel
theorem dX6_tries_0 : decode cX6_tries 0 = .ok (.iconst 0, 1) := by decide +kernel
theorem dX6_tries_1 : decode cX6_tries 1 = .ok (.istore_n 1, 1) := by decide +kernel
theorem dX6_tries_2 : decode cX6_tries 2 = .ok (.iload_n 1, 1) := by decide +kernel
theorem dX6_tries_3 : decode cX6_tries 3 = .ok (.sipush 745, 3) := by decide +kernel
theorem dX6_tries_6 : decode cX6_tries 6 = .ok (.if_icmp .ge 21, 3) := by decide +kernel
theorem dX6_tries_9 : decode cX6_tries 9 = .ok (.aload_n 0, 1) := by decide +kernel
theorem dX6_tries_10 : decode cX6_tries 10 = .ok (.getfield 19, 3) := by decide +kernel
theorem dX6_tries_13 : decode cX6_tries 13 = .ok (.iload_n 1, 1) := by decide +kernel
theorem dX6_tries_14 : decode cX6_tries 14 = .ok (.aload_n 0, 1) := by decide +kernel
theorem dX6_tries_15 : decode cX6_tries 15 = .ok (.getfield 9, 3) := by decide +kernel
theorem dX6_tries_18 : decode cX6_tries 18 = .ok (.iload_n 1, 1) := by decide +kernel
theorem dX6_tries_19 : decode cX6_tries 19 = .ok (.iaload, 1) := by decide +kernel
theorem dX6_tries_20 : decode cX6_tries 20 = .ok (.iastore, 1) := by decide +kernel
theorem dX6_tries_21 : decode cX6_tries 21 = .ok (.iinc 1 1, 3) := by decide +kernel
theorem dX6_tries_24 : decode cX6_tries 24 = .ok (.goto (-22), 3) := by decide +kernel
theorem dX6_tries_27 : decode cX6_tries 27 = .ok (.return_, 1) := by decide +kernel
theorem dX6_keeps_0 : decode cX6_keeps 0 = .ok (.aload_n 0, 1) := by decide +kernel
theorem dX6_keeps_1 : decode cX6_keeps 1 = .ok (.getfield 50, 3) := by decide +kernel
theorem dX6_keeps_4 : decode cX6_keeps 4 = .ok (.bipush 8, 2) := by decide +kernel
theorem dX6_keeps_6 : decode cX6_keeps 6 = .ok (.if_icmp .ne 44, 3) := by decide +kernel
theorem dX6_keeps_9 : decode cX6_keeps 9 = .ok (.iconst 0, 1) := by decide +kernel
theorem dX6_keeps_10 : decode cX6_keeps 10 = .ok (.istore_n 1, 1) := by decide +kernel
theorem dX6_keeps_11 : decode cX6_keeps 11 = .ok (.iload_n 1, 1) := by decide +kernel
theorem dX6_keeps_12 : decode cX6_keeps 12 = .ok (.sipush 5215, 3) := by decide +kernel
theorem dX6_keeps_15 : decode cX6_keeps 15 = .ok (.if_icmp .ge 25, 3) := by decide +kernel
theorem dX6_keeps_18 : decode cX6_keeps 18 = .ok (.aload_n 0, 1) := by decide +kernel
theorem dX6_keeps_19 : decode cX6_keeps 19 = .ok (.getfield 13, 3) := by decide +kernel
theorem dX6_keeps_22 : decode cX6_keeps 22 = .ok (.iload_n 1, 1) := by decide +kernel
theorem dX6_keeps_23 : decode cX6_keeps 23 = .ok (.aload_n 0, 1) := by decide +kernel
theorem dX6_keeps_24 : decode cX6_keeps 24 = .ok (.getfield 13, 3) := by decide +kernel
theorem dX6_keeps_27 : decode cX6_keeps 27 = .ok (.sipush 745, 3) := by decide +kernel
theorem dX6_keeps_30 : decode cX6_keeps 30 = .ok (.iload_n 1, 1) := by decide +kernel
theorem dX6_keeps_31 : decode cX6_keeps 31 = .ok (.iadd, 1) := by decide +kernel
theorem dX6_keeps_32 : decode cX6_keeps 32 = .ok (.iaload, 1) := by decide +kernel
theorem dX6_keeps_33 : decode cX6_keeps 33 = .ok (.iastore, 1) := by decide +kernel
theorem dX6_keeps_34 : decode cX6_keeps 34 = .ok (.iinc 1 1, 3) := by decide +kernel
theorem dX6_keeps_37 : decode cX6_keeps 37 = .ok (.goto (-26), 3) := by decide +kernel
theorem dX6_keeps_40 : decode cX6_keeps 40 = .ok (.aload_n 0, 1) := by decide +kernel
theorem dX6_keeps_41 : decode cX6_keeps 41 = .ok (.dup, 1) := by decide +kernel
theorem dX6_keeps_42 : decode cX6_keeps 42 = .ok (.getfield 50, 3) := by decide +kernel
theorem dX6_keeps_45 : decode cX6_keeps 45 = .ok (.iconst 1, 1) := by decide +kernel
theorem dX6_keeps_46 : decode cX6_keeps 46 = .ok (.isub, 1) := by decide +kernel
theorem dX6_keeps_47 : decode cX6_keeps 47 = .ok (.putfield 50, 3) := by decide +kernel
theorem dX6_keeps_50 : decode cX6_keeps 50 = .ok (.iconst 0, 1) := by decide +kernel
theorem dX6_keeps_51 : decode cX6_keeps 51 = .ok (.istore_n 1, 1) := by decide +kernel
theorem dX6_keeps_52 : decode cX6_keeps 52 = .ok (.iload_n 1, 1) := by decide +kernel
theorem dX6_keeps_53 : decode cX6_keeps 53 = .ok (.sipush 745, 3) := by decide +kernel
theorem dX6_keeps_56 : decode cX6_keeps 56 = .ok (.if_icmp .ge 30, 3) := by decide +kernel
theorem dX6_keeps_59 : decode cX6_keeps 59 = .ok (.aload_n 0, 1) := by decide +kernel
theorem dX6_keeps_60 : decode cX6_keeps 60 = .ok (.getfield 13, 3) := by decide +kernel
theorem dX6_keeps_63 : decode cX6_keeps 63 = .ok (.sipush 745, 3) := by decide +kernel
theorem dX6_keeps_66 : decode cX6_keeps 66 = .ok (.aload_n 0, 1) := by decide +kernel
theorem dX6_keeps_67 : decode cX6_keeps 67 = .ok (.getfield 50, 3) := by decide +kernel
theorem dX6_keeps_70 : decode cX6_keeps 70 = .ok (.imul, 1) := by decide +kernel
theorem dX6_keeps_71 : decode cX6_keeps 71 = .ok (.iload_n 1, 1) := by decide +kernel
theorem dX6_keeps_72 : decode cX6_keeps 72 = .ok (.iadd, 1) := by decide +kernel
theorem dX6_keeps_73 : decode cX6_keeps 73 = .ok (.aload_n 0, 1) := by decide +kernel
theorem dX6_keeps_74 : decode cX6_keeps 74 = .ok (.getfield 19, 3) := by decide +kernel
theorem dX6_keeps_77 : decode cX6_keeps 77 = .ok (.iload_n 1, 1) := by decide +kernel
theorem dX6_keeps_78 : decode cX6_keeps 78 = .ok (.iaload, 1) := by decide +kernel
theorem dX6_keeps_79 : decode cX6_keeps 79 = .ok (.iastore, 1) := by decide +kernel
theorem dX6_keeps_80 : decode cX6_keeps 80 = .ok (.iinc 1 1, 3) := by decide +kernel
theorem dX6_keeps_83 : decode cX6_keeps 83 = .ok (.goto (-31), 3) := by decide +kernel
theorem dX6_keeps_86 : decode cX6_keeps 86 = .ok (.aload_n 0, 1) := by decide +kernel
theorem dX6_keeps_87 : decode cX6_keeps 87 = .ok (.dup, 1) := by decide +kernel
theorem dX6_keeps_88 : decode cX6_keeps 88 = .ok (.getfield 50, 3) := by decide +kernel
theorem dX6_keeps_91 : decode cX6_keeps 91 = .ok (.iconst 1, 1) := by decide +kernel
theorem dX6_keeps_92 : decode cX6_keeps 92 = .ok (.iadd, 1) := by decide +kernel
theorem dX6_keeps_93 : decode cX6_keeps 93 = .ok (.putfield 50, 3) := by decide +kernel
theorem dX6_keeps_96 : decode cX6_keeps 96 = .ok (.return_, 1) := by decide +kernel
theorem dX6_changes_0 : decode cX6_changes 0 = .ok (.aload_n 0, 1) := by decide +kernel
theorem dX6_changes_1 : decode cX6_changes 1 = .ok (.invokevirtual 54, 3) := by decide +kernel
theorem dX6_changes_4 : decode cX6_changes 4 = .ok (.aload_n 0, 1) := by decide +kernel
theorem dX6_changes_5 : decode cX6_changes 5 = .ok (.invokevirtual 57, 3) := by decide +kernel
theorem dX6_changes_8 : decode cX6_changes 8 = .ok (.return_, 1) := by decide +kernel
theorem dX6_nearest_0 : decode cX6_nearest 0 = .ok (.iconst 2, 1) := by decide +kernel
theorem dX6_nearest_1 : decode cX6_nearest 1 = .ok (.iload_n 0, 1) := by decide +kernel
theorem dX6_nearest_2 : decode cX6_nearest 2 = .ok (.imul, 1) := by decide +kernel
theorem dX6_nearest_3 : decode cX6_nearest 3 = .ok (.iload_n 1, 1) := by decide +kernel
theorem dX6_nearest_4 : decode cX6_nearest 4 = .ok (.iadd, 1) := by decide +kernel
theorem dX6_nearest_5 : decode cX6_nearest 5 = .ok (.iconst 2, 1) := by decide +kernel
theorem dX6_nearest_6 : decode cX6_nearest 6 = .ok (.iload_n 1, 1) := by decide +kernel
theorem dX6_nearest_7 : decode cX6_nearest 7 = .ok (.imul, 1) := by decide +kernel
theorem dX6_nearest_8 : decode cX6_nearest 8 = .ok (.invokestatic 60, 3) := by decide +kernel
theorem dX6_nearest_11 : decode cX6_nearest 11 = .ok (.ireturn, 1) := by decide +kernel
theorem dX6_isModule_0 : decode cX6_isModule 0 = .ok (.iload_n 1, 1) := by decide +kernel
theorem dX6_isModule_1 : decode cX6_isModule 1 = .ok (.iconst 0, 1) := by decide +kernel
theorem dX6_isModule_2 : decode cX6_isModule 2 = .ok (.aload_n 0, 1) := by decide +kernel
theorem dX6_isModule_3 : decode cX6_isModule 3 = .ok (.getfield 9, 3) := by decide +kernel
theorem dX6_isModule_6 : decode cX6_isModule 6 = .ok (.iconst 5, 1) := by decide +kernel
theorem dX6_isModule_7 : decode cX6_isModule 7 = .ok (.iaload, 1) := by decide +kernel
theorem dX6_isModule_8 : decode cX6_isModule 8 = .ok (.iconst 1, 1) := by decide +kernel
theorem dX6_isModule_9 : decode cX6_isModule 9 = .ok (.isub, 1) := by decide +kernel
theorem dX6_isModule_10 : decode cX6_isModule 10 = .ok (.invokestatic 66, 3) := by decide +kernel
theorem dX6_isModule_13 : decode cX6_isModule 13 = .ok (.ireturn, 1) := by decide +kernel
theorem dX6_isPaper_0 : decode cX6_isPaper 0 = .ok (.iload_n 1, 1) := by decide +kernel
theorem dX6_isPaper_1 : decode cX6_isPaper 1 = .ok (.iconst 0, 1) := by decide +kernel
theorem dX6_isPaper_2 : decode cX6_isPaper 2 = .ok (.aload_n 0, 1) := by decide +kernel
theorem dX6_isPaper_3 : decode cX6_isPaper 3 = .ok (.getfield 9, 3) := by decide +kernel
theorem dX6_isPaper_6 : decode cX6_isPaper 6 = .ok (.bipush 6, 2) := by decide +kernel
theorem dX6_isPaper_8 : decode cX6_isPaper 8 = .ok (.iaload, 1) := by decide +kernel
theorem dX6_isPaper_9 : decode cX6_isPaper 9 = .ok (.iconst 1, 1) := by decide +kernel
theorem dX6_isPaper_10 : decode cX6_isPaper 10 = .ok (.isub, 1) := by decide +kernel
theorem dX6_isPaper_11 : decode cX6_isPaper 11 = .ok (.invokestatic 66, 3) := by decide +kernel
theorem dX6_isPaper_14 : decode cX6_isPaper 14 = .ok (.ireturn, 1) := by decide +kernel
theorem dX6_isStudent_0 : decode cX6_isStudent 0 = .ok (.iload_n 1, 1) := by decide +kernel
theorem dX6_isStudent_1 : decode cX6_isStudent 1 = .ok (.iconst 0, 1) := by decide +kernel
theorem dX6_isStudent_2 : decode cX6_isStudent 2 = .ok (.aload_n 0, 1) := by decide +kernel
theorem dX6_isStudent_3 : decode cX6_isStudent 3 = .ok (.getfield 9, 3) := by decide +kernel
theorem dX6_isStudent_6 : decode cX6_isStudent 6 = .ok (.bipush 7, 2) := by decide +kernel
theorem dX6_isStudent_8 : decode cX6_isStudent 8 = .ok (.iaload, 1) := by decide +kernel
theorem dX6_isStudent_9 : decode cX6_isStudent 9 = .ok (.iconst 1, 1) := by decide +kernel
theorem dX6_isStudent_10 : decode cX6_isStudent 10 = .ok (.isub, 1) := by decide +kernel
theorem dX6_isStudent_11 : decode cX6_isStudent 11 = .ok (.invokestatic 66, 3) := by decide +kernel
theorem dX6_isStudent_14 : decode cX6_isStudent 14 = .ok (.ireturn, 1) := by decide +kernel
theorem dX6_of_0 : decode cX6_of 0 = .ok (.aload_n 0, 1) := by decide +kernel
theorem dX6_of_1 : decode cX6_of 1 = .ok (.getfield 9, 3) := by decide +kernel
theorem dX6_of_4 : decode cX6_of 4 = .ok (.bipush 13, 2) := by decide +kernel
theorem dX6_of_6 : decode cX6_of 6 = .ok (.iconst 3, 1) := by decide +kernel
theorem dX6_of_7 : decode cX6_of 7 = .ok (.iload_n 1, 1) := by decide +kernel
theorem dX6_of_8 : decode cX6_of 8 = .ok (.imul, 1) := by decide +kernel
theorem dX6_of_9 : decode cX6_of 9 = .ok (.iadd, 1) := by decide +kernel
theorem dX6_of_10 : decode cX6_of 10 = .ok (.iload_n 2, 1) := by decide +kernel
theorem dX6_of_11 : decode cX6_of 11 = .ok (.iadd, 1) := by decide +kernel
theorem dX6_of_12 : decode cX6_of 12 = .ok (.iaload, 1) := by decide +kernel
theorem dX6_of_13 : decode cX6_of 13 = .ok (.ireturn, 1) := by decide +kernel
theorem dX6_attemptAt_0 : decode cX6_attemptAt 0 = .ok (.bipush 57, 2) := by decide +kernel
theorem dX6_attemptAt_2 : decode cX6_attemptAt 2 = .ok (.iconst 3, 1) := by decide +kernel
theorem dX6_attemptAt_3 : decode cX6_attemptAt 3 = .ok (.bipush 8, 2) := by decide +kernel
theorem dX6_attemptAt_5 : decode cX6_attemptAt 5 = .ok (.iload_n 0, 1) := by decide +kernel
theorem dX6_attemptAt_6 : decode cX6_attemptAt 6 = .ok (.imul, 1) := by decide +kernel
theorem dX6_attemptAt_7 : decode cX6_attemptAt 7 = .ok (.iload_n 1, 1) := by decide +kernel
theorem dX6_attemptAt_8 : decode cX6_attemptAt 8 = .ok (.iadd, 1) := by decide +kernel
theorem dX6_attemptAt_9 : decode cX6_attemptAt 9 = .ok (.imul, 1) := by decide +kernel
theorem dX6_attemptAt_10 : decode cX6_attemptAt 10 = .ok (.iadd, 1) := by decide +kernel
theorem dX6_attemptAt_11 : decode cX6_attemptAt 11 = .ok (.ireturn, 1) := by decide +kernel
theorem dX6_isSetting_0 : decode cX6_isSetting 0 = .ok (.iload_n 0, 1) := by decide +kernel
theorem dX6_isSetting_1 : decode cX6_isSetting 1 = .ok (.tableswitch 75 0 4 #[35, 44, 52, 60, 67], 35) := by decide +kernel
theorem dX6_isSetting_36 : decode cX6_isSetting 36 = .ok (.iload_n 1, 1) := by decide +kernel
theorem dX6_isSetting_37 : decode cX6_isSetting 37 = .ok (.bipush 30, 2) := by decide +kernel
theorem dX6_isSetting_39 : decode cX6_isSetting 39 = .ok (.bipush 60, 2) := by decide +kernel
theorem dX6_isSetting_41 : decode cX6_isSetting 41 = .ok (.invokestatic 66, 3) := by decide +kernel
theorem dX6_isSetting_44 : decode cX6_isSetting 44 = .ok (.ireturn, 1) := by decide +kernel
theorem dX6_isSetting_45 : decode cX6_isSetting 45 = .ok (.iload_n 1, 1) := by decide +kernel
theorem dX6_isSetting_46 : decode cX6_isSetting 46 = .ok (.iconst 0, 1) := by decide +kernel
theorem dX6_isSetting_47 : decode cX6_isSetting 47 = .ok (.bipush 60, 2) := by decide +kernel
theorem dX6_isSetting_49 : decode cX6_isSetting 49 = .ok (.invokestatic 66, 3) := by decide +kernel
theorem dX6_isSetting_52 : decode cX6_isSetting 52 = .ok (.ireturn, 1) := by decide +kernel
theorem dX6_isSetting_53 : decode cX6_isSetting 53 = .ok (.iload_n 1, 1) := by decide +kernel
theorem dX6_isSetting_54 : decode cX6_isSetting 54 = .ok (.iconst 0, 1) := by decide +kernel
theorem dX6_isSetting_55 : decode cX6_isSetting 55 = .ok (.bipush 8, 2) := by decide +kernel
theorem dX6_isSetting_57 : decode cX6_isSetting 57 = .ok (.invokestatic 66, 3) := by decide +kernel
theorem dX6_isSetting_60 : decode cX6_isSetting 60 = .ok (.ireturn, 1) := by decide +kernel
theorem dX6_isSetting_61 : decode cX6_isSetting 61 = .ok (.iload_n 1, 1) := by decide +kernel
theorem dX6_isSetting_62 : decode cX6_isSetting 62 = .ok (.iconst 0, 1) := by decide +kernel
theorem dX6_isSetting_63 : decode cX6_isSetting 63 = .ok (.iconst 5, 1) := by decide +kernel
theorem dX6_isSetting_64 : decode cX6_isSetting 64 = .ok (.invokestatic 66, 3) := by decide +kernel
theorem dX6_isSetting_67 : decode cX6_isSetting 67 = .ok (.ireturn, 1) := by decide +kernel
theorem dX6_isSetting_68 : decode cX6_isSetting 68 = .ok (.iload_n 1, 1) := by decide +kernel
theorem dX6_isSetting_69 : decode cX6_isSetting 69 = .ok (.iconst 0, 1) := by decide +kernel
theorem dX6_isSetting_70 : decode cX6_isSetting 70 = .ok (.bipush 100, 2) := by decide +kernel
theorem dX6_isSetting_72 : decode cX6_isSetting 72 = .ok (.invokestatic 66, 3) := by decide +kernel
theorem dX6_isSetting_75 : decode cX6_isSetting 75 = .ok (.ireturn, 1) := by decide +kernel
theorem dX6_isSetting_76 : decode cX6_isSetting 76 = .ok (.iconst 0, 1) := by decide +kernel
theorem dX6_isSetting_77 : decode cX6_isSetting 77 = .ok (.ireturn, 1) := by decide +kernel
theorem dX6_set_0 : decode cX6_set 0 = .ok (.iload_n 1, 1) := by decide +kernel
theorem dX6_set_1 : decode cX6_set 1 = .ok (.iload_n 2, 1) := by decide +kernel
theorem dX6_set_2 : decode cX6_set 2 = .ok (.invokestatic 70, 3) := by decide +kernel
theorem dX6_set_5 : decode cX6_set 5 = .ok (.ifCond .ne 6, 3) := by decide +kernel
theorem dX6_set_8 : decode cX6_set 8 = .ok (.bipush (-2), 2) := by decide +kernel
theorem dX6_set_10 : decode cX6_set 10 = .ok (.ireturn, 1) := by decide +kernel
theorem dX6_set_11 : decode cX6_set 11 = .ok (.aload_n 0, 1) := by decide +kernel
theorem dX6_set_12 : decode cX6_set 12 = .ok (.invokevirtual 74, 3) := by decide +kernel
theorem dX6_set_15 : decode cX6_set 15 = .ok (.aload_n 0, 1) := by decide +kernel
theorem dX6_set_16 : decode cX6_set 16 = .ok (.getfield 9, 3) := by decide +kernel
theorem dX6_set_19 : decode cX6_set 19 = .ok (.iload_n 1, 1) := by decide +kernel
theorem dX6_set_20 : decode cX6_set 20 = .ok (.iaload, 1) := by decide +kernel
theorem dX6_set_21 : decode cX6_set 21 = .ok (.istore_n 3, 1) := by decide +kernel
theorem dX6_set_22 : decode cX6_set 22 = .ok (.aload_n 0, 1) := by decide +kernel
theorem dX6_set_23 : decode cX6_set 23 = .ok (.getfield 9, 3) := by decide +kernel
theorem dX6_set_26 : decode cX6_set 26 = .ok (.iload_n 1, 1) := by decide +kernel
theorem dX6_set_27 : decode cX6_set 27 = .ok (.iload_n 2, 1) := by decide +kernel
theorem dX6_set_28 : decode cX6_set 28 = .ok (.iastore, 1) := by decide +kernel
theorem dX6_set_29 : decode cX6_set 29 = .ok (.iload_n 3, 1) := by decide +kernel
theorem dX6_set_30 : decode cX6_set 30 = .ok (.ireturn, 1) := by decide +kernel
theorem dX6_addModule_0 : decode cX6_addModule 0 = .ok (.iload_n 1, 1) := by decide +kernel
theorem dX6_addModule_1 : decode cX6_addModule 1 = .ok (.iconst 1, 1) := by decide +kernel
theorem dX6_addModule_2 : decode cX6_addModule 2 = .ok (.bipush 9, 2) := by decide +kernel
theorem dX6_addModule_4 : decode cX6_addModule 4 = .ok (.invokestatic 66, 3) := by decide +kernel
theorem dX6_addModule_7 : decode cX6_addModule 7 = .ok (.ifCond .ne 6, 3) := by decide +kernel
theorem dX6_addModule_10 : decode cX6_addModule 10 = .ok (.bipush (-2), 2) := by decide +kernel
theorem dX6_addModule_12 : decode cX6_addModule 12 = .ok (.ireturn, 1) := by decide +kernel
theorem dX6_addModule_13 : decode cX6_addModule 13 = .ok (.aload_n 0, 1) := by decide +kernel
theorem dX6_addModule_14 : decode cX6_addModule 14 = .ok (.getfield 9, 3) := by decide +kernel
theorem dX6_addModule_17 : decode cX6_addModule 17 = .ok (.iconst 5, 1) := by decide +kernel
theorem dX6_addModule_18 : decode cX6_addModule 18 = .ok (.iaload, 1) := by decide +kernel
theorem dX6_addModule_19 : decode cX6_addModule 19 = .ok (.iconst 4, 1) := by decide +kernel
theorem dX6_addModule_20 : decode cX6_addModule 20 = .ok (.if_icmp .ne 6, 3) := by decide +kernel
theorem dX6_addModule_23 : decode cX6_addModule 23 = .ok (.bipush (-3), 2) := by decide +kernel
theorem dX6_addModule_25 : decode cX6_addModule 25 = .ok (.ireturn, 1) := by decide +kernel
theorem dX6_addModule_26 : decode cX6_addModule 26 = .ok (.aload_n 0, 1) := by decide +kernel
theorem dX6_addModule_27 : decode cX6_addModule 27 = .ok (.invokevirtual 74, 3) := by decide +kernel
theorem dX6_addModule_30 : decode cX6_addModule 30 = .ok (.aload_n 0, 1) := by decide +kernel
theorem dX6_addModule_31 : decode cX6_addModule 31 = .ok (.getfield 9, 3) := by decide +kernel
theorem dX6_addModule_34 : decode cX6_addModule 34 = .ok (.bipush 9, 2) := by decide +kernel
theorem dX6_addModule_36 : decode cX6_addModule 36 = .ok (.aload_n 0, 1) := by decide +kernel
theorem dX6_addModule_37 : decode cX6_addModule 37 = .ok (.getfield 9, 3) := by decide +kernel
theorem dX6_addModule_40 : decode cX6_addModule 40 = .ok (.iconst 5, 1) := by decide +kernel
theorem dX6_addModule_41 : decode cX6_addModule 41 = .ok (.iaload, 1) := by decide +kernel
theorem dX6_addModule_42 : decode cX6_addModule 42 = .ok (.iadd, 1) := by decide +kernel
theorem dX6_addModule_43 : decode cX6_addModule 43 = .ok (.iload_n 1, 1) := by decide +kernel
theorem dX6_addModule_44 : decode cX6_addModule 44 = .ok (.iastore, 1) := by decide +kernel
theorem dX6_addModule_45 : decode cX6_addModule 45 = .ok (.aload_n 0, 1) := by decide +kernel
theorem dX6_addModule_46 : decode cX6_addModule 46 = .ok (.getfield 9, 3) := by decide +kernel
theorem dX6_addModule_49 : decode cX6_addModule 49 = .ok (.iconst 5, 1) := by decide +kernel
theorem dX6_addModule_50 : decode cX6_addModule 50 = .ok (.dup2, 1) := by decide +kernel
theorem dX6_addModule_51 : decode cX6_addModule 51 = .ok (.iaload, 1) := by decide +kernel
theorem dX6_addModule_52 : decode cX6_addModule 52 = .ok (.dup_x2, 1) := by decide +kernel
theorem dX6_addModule_53 : decode cX6_addModule 53 = .ok (.iconst 1, 1) := by decide +kernel
theorem dX6_addModule_54 : decode cX6_addModule 54 = .ok (.iadd, 1) := by decide +kernel
theorem dX6_addModule_55 : decode cX6_addModule 55 = .ok (.iastore, 1) := by decide +kernel
theorem dX6_addModule_56 : decode cX6_addModule 56 = .ok (.ireturn, 1) := by decide +kernel
theorem dX6_addPaper_0 : decode cX6_addPaper 0 = .ok (.aload_n 0, 1) := by decide +kernel
theorem dX6_addPaper_1 : decode cX6_addPaper 1 = .ok (.iload_n 1, 1) := by decide +kernel
theorem dX6_addPaper_2 : decode cX6_addPaper 2 = .ok (.invokevirtual 77, 3) := by decide +kernel
theorem dX6_addPaper_5 : decode cX6_addPaper 5 = .ok (.ifCond .ne 5, 3) := by decide +kernel
theorem dX6_addPaper_8 : decode cX6_addPaper 8 = .ok (.iconst (-1), 1) := by decide +kernel
theorem dX6_addPaper_9 : decode cX6_addPaper 9 = .ok (.ireturn, 1) := by decide +kernel
theorem dX6_addPaper_10 : decode cX6_addPaper 10 = .ok (.iload_n 2, 1) := by decide +kernel
theorem dX6_addPaper_11 : decode cX6_addPaper 11 = .ok (.iconst 1, 1) := by decide +kernel
theorem dX6_addPaper_12 : decode cX6_addPaper 12 = .ok (.bipush 9, 2) := by decide +kernel
theorem dX6_addPaper_14 : decode cX6_addPaper 14 = .ok (.invokestatic 66, 3) := by decide +kernel
theorem dX6_addPaper_17 : decode cX6_addPaper 17 = .ok (.ifCond .eq 15, 3) := by decide +kernel
theorem dX6_addPaper_20 : decode cX6_addPaper 20 = .ok (.iload_n 3, 1) := by decide +kernel
theorem dX6_addPaper_21 : decode cX6_addPaper 21 = .ok (.bipush 10, 2) := by decide +kernel
theorem dX6_addPaper_23 : decode cX6_addPaper 23 = .ok (.sipush 200, 3) := by decide +kernel
theorem dX6_addPaper_26 : decode cX6_addPaper 26 = .ok (.invokestatic 66, 3) := by decide +kernel
theorem dX6_addPaper_29 : decode cX6_addPaper 29 = .ok (.ifCond .ne 6, 3) := by decide +kernel
theorem dX6_addPaper_32 : decode cX6_addPaper 32 = .ok (.bipush (-2), 2) := by decide +kernel
theorem dX6_addPaper_34 : decode cX6_addPaper 34 = .ok (.ireturn, 1) := by decide +kernel
theorem dX6_addPaper_35 : decode cX6_addPaper 35 = .ok (.aload_n 0, 1) := by decide +kernel
theorem dX6_addPaper_36 : decode cX6_addPaper 36 = .ok (.getfield 9, 3) := by decide +kernel
theorem dX6_addPaper_39 : decode cX6_addPaper 39 = .ok (.bipush 6, 2) := by decide +kernel
theorem dX6_addPaper_41 : decode cX6_addPaper 41 = .ok (.iaload, 1) := by decide +kernel
theorem dX6_addPaper_42 : decode cX6_addPaper 42 = .ok (.bipush 8, 2) := by decide +kernel
theorem dX6_addPaper_44 : decode cX6_addPaper 44 = .ok (.if_icmp .ne 6, 3) := by decide +kernel
theorem dX6_addPaper_47 : decode cX6_addPaper 47 = .ok (.bipush (-3), 2) := by decide +kernel
theorem dX6_addPaper_49 : decode cX6_addPaper 49 = .ok (.ireturn, 1) := by decide +kernel
theorem dX6_addPaper_50 : decode cX6_addPaper 50 = .ok (.aload_n 0, 1) := by decide +kernel
theorem dX6_addPaper_51 : decode cX6_addPaper 51 = .ok (.invokevirtual 74, 3) := by decide +kernel
theorem dX6_addPaper_54 : decode cX6_addPaper 54 = .ok (.bipush 13, 2) := by decide +kernel
theorem dX6_addPaper_56 : decode cX6_addPaper 56 = .ok (.iconst 3, 1) := by decide +kernel
theorem dX6_addPaper_57 : decode cX6_addPaper 57 = .ok (.aload_n 0, 1) := by decide +kernel
theorem dX6_addPaper_58 : decode cX6_addPaper 58 = .ok (.getfield 9, 3) := by decide +kernel
theorem dX6_addPaper_61 : decode cX6_addPaper 61 = .ok (.bipush 6, 2) := by decide +kernel
theorem dX6_addPaper_63 : decode cX6_addPaper 63 = .ok (.iaload, 1) := by decide +kernel
theorem dX6_addPaper_64 : decode cX6_addPaper 64 = .ok (.imul, 1) := by decide +kernel
theorem dX6_addPaper_65 : decode cX6_addPaper 65 = .ok (.iadd, 1) := by decide +kernel
theorem dX6_addPaper_66 : decode cX6_addPaper 66 = .ok (.istore 4, 2) := by decide +kernel
theorem dX6_addPaper_68 : decode cX6_addPaper 68 = .ok (.aload_n 0, 1) := by decide +kernel
theorem dX6_addPaper_69 : decode cX6_addPaper 69 = .ok (.getfield 9, 3) := by decide +kernel
theorem dX6_addPaper_72 : decode cX6_addPaper 72 = .ok (.iload 4, 2) := by decide +kernel
theorem dX6_addPaper_74 : decode cX6_addPaper 74 = .ok (.iload_n 1, 1) := by decide +kernel
theorem dX6_addPaper_75 : decode cX6_addPaper 75 = .ok (.iastore, 1) := by decide +kernel
theorem dX6_addPaper_76 : decode cX6_addPaper 76 = .ok (.aload_n 0, 1) := by decide +kernel
theorem dX6_addPaper_77 : decode cX6_addPaper 77 = .ok (.getfield 9, 3) := by decide +kernel
theorem dX6_addPaper_80 : decode cX6_addPaper 80 = .ok (.iload 4, 2) := by decide +kernel
theorem dX6_addPaper_82 : decode cX6_addPaper 82 = .ok (.iconst 1, 1) := by decide +kernel
theorem dX6_addPaper_83 : decode cX6_addPaper 83 = .ok (.iadd, 1) := by decide +kernel
theorem dX6_addPaper_84 : decode cX6_addPaper 84 = .ok (.iload_n 2, 1) := by decide +kernel
theorem dX6_addPaper_85 : decode cX6_addPaper 85 = .ok (.iastore, 1) := by decide +kernel
theorem dX6_addPaper_86 : decode cX6_addPaper 86 = .ok (.aload_n 0, 1) := by decide +kernel
theorem dX6_addPaper_87 : decode cX6_addPaper 87 = .ok (.getfield 9, 3) := by decide +kernel
theorem dX6_addPaper_90 : decode cX6_addPaper 90 = .ok (.iload 4, 2) := by decide +kernel
theorem dX6_addPaper_92 : decode cX6_addPaper 92 = .ok (.iconst 2, 1) := by decide +kernel
theorem dX6_addPaper_93 : decode cX6_addPaper 93 = .ok (.iadd, 1) := by decide +kernel
theorem dX6_addPaper_94 : decode cX6_addPaper 94 = .ok (.iload_n 3, 1) := by decide +kernel
theorem dX6_addPaper_95 : decode cX6_addPaper 95 = .ok (.iastore, 1) := by decide +kernel
theorem dX6_addPaper_96 : decode cX6_addPaper 96 = .ok (.aload_n 0, 1) := by decide +kernel
theorem dX6_addPaper_97 : decode cX6_addPaper 97 = .ok (.getfield 9, 3) := by decide +kernel
theorem dX6_addPaper_100 : decode cX6_addPaper 100 = .ok (.bipush 6, 2) := by decide +kernel
theorem dX6_addPaper_102 : decode cX6_addPaper 102 = .ok (.dup2, 1) := by decide +kernel
theorem dX6_addPaper_103 : decode cX6_addPaper 103 = .ok (.iaload, 1) := by decide +kernel
theorem dX6_addPaper_104 : decode cX6_addPaper 104 = .ok (.dup_x2, 1) := by decide +kernel
theorem dX6_addPaper_105 : decode cX6_addPaper 105 = .ok (.iconst 1, 1) := by decide +kernel
theorem dX6_addPaper_106 : decode cX6_addPaper 106 = .ok (.iadd, 1) := by decide +kernel
theorem dX6_addPaper_107 : decode cX6_addPaper 107 = .ok (.iastore, 1) := by decide +kernel
theorem dX6_addPaper_108 : decode cX6_addPaper 108 = .ok (.ireturn, 1) := by decide +kernel
theorem dX6_addStudent_0 : decode cX6_addStudent 0 = .ok (.iload_n 1, 1) := by decide +kernel
theorem dX6_addStudent_1 : decode cX6_addStudent 1 = .ok (.iconst 0, 1) := by decide +kernel
theorem dX6_addStudent_2 : decode cX6_addStudent 2 = .ok (.iconst 2, 1) := by decide +kernel
theorem dX6_addStudent_3 : decode cX6_addStudent 3 = .ok (.invokestatic 66, 3) := by decide +kernel
theorem dX6_addStudent_6 : decode cX6_addStudent 6 = .ok (.ifCond .ne 6, 3) := by decide +kernel
theorem dX6_addStudent_9 : decode cX6_addStudent 9 = .ok (.bipush (-2), 2) := by decide +kernel
theorem dX6_addStudent_11 : decode cX6_addStudent 11 = .ok (.ireturn, 1) := by decide +kernel
theorem dX6_addStudent_12 : decode cX6_addStudent 12 = .ok (.aload_n 0, 1) := by decide +kernel
theorem dX6_addStudent_13 : decode cX6_addStudent 13 = .ok (.getfield 9, 3) := by decide +kernel
theorem dX6_addStudent_16 : decode cX6_addStudent 16 = .ok (.bipush 7, 2) := by decide +kernel
theorem dX6_addStudent_18 : decode cX6_addStudent 18 = .ok (.iaload, 1) := by decide +kernel
theorem dX6_addStudent_19 : decode cX6_addStudent 19 = .ok (.bipush 20, 2) := by decide +kernel
theorem dX6_addStudent_21 : decode cX6_addStudent 21 = .ok (.if_icmp .ne 6, 3) := by decide +kernel
theorem dX6_addStudent_24 : decode cX6_addStudent 24 = .ok (.bipush (-3), 2) := by decide +kernel
theorem dX6_addStudent_26 : decode cX6_addStudent 26 = .ok (.ireturn, 1) := by decide +kernel
theorem dX6_addStudent_27 : decode cX6_addStudent 27 = .ok (.aload_n 0, 1) := by decide +kernel
theorem dX6_addStudent_28 : decode cX6_addStudent 28 = .ok (.invokevirtual 74, 3) := by decide +kernel
theorem dX6_addStudent_31 : decode cX6_addStudent 31 = .ok (.aload_n 0, 1) := by decide +kernel
theorem dX6_addStudent_32 : decode cX6_addStudent 32 = .ok (.getfield 9, 3) := by decide +kernel
theorem dX6_addStudent_35 : decode cX6_addStudent 35 = .ok (.bipush 37, 2) := by decide +kernel
theorem dX6_addStudent_37 : decode cX6_addStudent 37 = .ok (.aload_n 0, 1) := by decide +kernel
theorem dX6_addStudent_38 : decode cX6_addStudent 38 = .ok (.getfield 9, 3) := by decide +kernel
theorem dX6_addStudent_41 : decode cX6_addStudent 41 = .ok (.bipush 7, 2) := by decide +kernel
theorem dX6_addStudent_43 : decode cX6_addStudent 43 = .ok (.iaload, 1) := by decide +kernel
theorem dX6_addStudent_44 : decode cX6_addStudent 44 = .ok (.iadd, 1) := by decide +kernel
theorem dX6_addStudent_45 : decode cX6_addStudent 45 = .ok (.iload_n 1, 1) := by decide +kernel
theorem dX6_addStudent_46 : decode cX6_addStudent 46 = .ok (.iastore, 1) := by decide +kernel
theorem dX6_addStudent_47 : decode cX6_addStudent 47 = .ok (.iconst 0, 1) := by decide +kernel
theorem dX6_addStudent_48 : decode cX6_addStudent 48 = .ok (.istore_n 2, 1) := by decide +kernel
theorem dX6_addStudent_49 : decode cX6_addStudent 49 = .ok (.iload_n 2, 1) := by decide +kernel
theorem dX6_addStudent_50 : decode cX6_addStudent 50 = .ok (.bipush 8, 2) := by decide +kernel
theorem dX6_addStudent_52 : decode cX6_addStudent 52 = .ok (.if_icmp .ge 28, 3) := by decide +kernel
theorem dX6_addStudent_55 : decode cX6_addStudent 55 = .ok (.aload_n 0, 1) := by decide +kernel
theorem dX6_addStudent_56 : decode cX6_addStudent 56 = .ok (.getfield 9, 3) := by decide +kernel
theorem dX6_addStudent_59 : decode cX6_addStudent 59 = .ok (.aload_n 0, 1) := by decide +kernel
theorem dX6_addStudent_60 : decode cX6_addStudent 60 = .ok (.getfield 9, 3) := by decide +kernel
theorem dX6_addStudent_63 : decode cX6_addStudent 63 = .ok (.bipush 7, 2) := by decide +kernel
theorem dX6_addStudent_65 : decode cX6_addStudent 65 = .ok (.iaload, 1) := by decide +kernel
theorem dX6_addStudent_66 : decode cX6_addStudent 66 = .ok (.iload_n 2, 1) := by decide +kernel
theorem dX6_addStudent_67 : decode cX6_addStudent 67 = .ok (.invokestatic 81, 3) := by decide +kernel
theorem dX6_addStudent_70 : decode cX6_addStudent 70 = .ok (.iconst 2, 1) := by decide +kernel
theorem dX6_addStudent_71 : decode cX6_addStudent 71 = .ok (.iadd, 1) := by decide +kernel
theorem dX6_addStudent_72 : decode cX6_addStudent 72 = .ok (.iconst (-1), 1) := by decide +kernel
theorem dX6_addStudent_73 : decode cX6_addStudent 73 = .ok (.iastore, 1) := by decide +kernel
theorem dX6_addStudent_74 : decode cX6_addStudent 74 = .ok (.iinc 2 1, 3) := by decide +kernel
theorem dX6_addStudent_77 : decode cX6_addStudent 77 = .ok (.goto (-28), 3) := by decide +kernel
theorem dX6_addStudent_80 : decode cX6_addStudent 80 = .ok (.aload_n 0, 1) := by decide +kernel
theorem dX6_addStudent_81 : decode cX6_addStudent 81 = .ok (.getfield 9, 3) := by decide +kernel
theorem dX6_addStudent_84 : decode cX6_addStudent 84 = .ok (.bipush 7, 2) := by decide +kernel
theorem dX6_addStudent_86 : decode cX6_addStudent 86 = .ok (.dup2, 1) := by decide +kernel
theorem dX6_addStudent_87 : decode cX6_addStudent 87 = .ok (.iaload, 1) := by decide +kernel
theorem dX6_addStudent_88 : decode cX6_addStudent 88 = .ok (.dup_x2, 1) := by decide +kernel
theorem dX6_addStudent_89 : decode cX6_addStudent 89 = .ok (.iconst 1, 1) := by decide +kernel
theorem dX6_addStudent_90 : decode cX6_addStudent 90 = .ok (.iadd, 1) := by decide +kernel
theorem dX6_addStudent_91 : decode cX6_addStudent 91 = .ok (.iastore, 1) := by decide +kernel
theorem dX6_addStudent_92 : decode cX6_addStudent 92 = .ok (.ireturn, 1) := by decide +kernel
theorem dX6_paper_0 : decode cX6_paper 0 = .ok (.aload_n 0, 1) := by decide +kernel
theorem dX6_paper_1 : decode cX6_paper 1 = .ok (.iload_n 1, 1) := by decide +kernel
theorem dX6_paper_2 : decode cX6_paper 2 = .ok (.invokevirtual 84, 3) := by decide +kernel
theorem dX6_paper_5 : decode cX6_paper 5 = .ok (.ifCond .ne 5, 3) := by decide +kernel
theorem dX6_paper_8 : decode cX6_paper 8 = .ok (.iconst (-1), 1) := by decide +kernel
theorem dX6_paper_9 : decode cX6_paper 9 = .ok (.ireturn, 1) := by decide +kernel
theorem dX6_paper_10 : decode cX6_paper 10 = .ok (.iload_n 2, 1) := by decide +kernel
theorem dX6_paper_11 : decode cX6_paper 11 = .ok (.iconst 0, 1) := by decide +kernel
theorem dX6_paper_12 : decode cX6_paper 12 = .ok (.bipush 7, 2) := by decide +kernel
theorem dX6_paper_14 : decode cX6_paper 14 = .ok (.invokestatic 66, 3) := by decide +kernel
theorem dX6_paper_17 : decode cX6_paper 17 = .ok (.ifCond .ne 6, 3) := by decide +kernel
theorem dX6_paper_20 : decode cX6_paper 20 = .ok (.bipush (-2), 2) := by decide +kernel
theorem dX6_paper_22 : decode cX6_paper 22 = .ok (.ireturn, 1) := by decide +kernel
theorem dX6_paper_23 : decode cX6_paper 23 = .ok (.iload_n 2, 1) := by decide +kernel
theorem dX6_paper_24 : decode cX6_paper 24 = .ok (.iconst 3, 1) := by decide +kernel
theorem dX6_paper_25 : decode cX6_paper 25 = .ok (.if_icmp .ge 10, 3) := by decide +kernel
theorem dX6_paper_28 : decode cX6_paper 28 = .ok (.aload_n 0, 1) := by decide +kernel
theorem dX6_paper_29 : decode cX6_paper 29 = .ok (.iload_n 1, 1) := by decide +kernel
theorem dX6_paper_30 : decode cX6_paper 30 = .ok (.iload_n 2, 1) := by decide +kernel
theorem dX6_paper_31 : decode cX6_paper 31 = .ok (.invokevirtual 87, 3) := by decide +kernel
theorem dX6_paper_34 : decode cX6_paper 34 = .ok (.ireturn, 1) := by decide +kernel
theorem dX6_paper_35 : decode cX6_paper 35 = .ok (.iconst 0, 1) := by decide +kernel
theorem dX6_paper_36 : decode cX6_paper 36 = .ok (.istore_n 3, 1) := by decide +kernel
theorem dX6_paper_37 : decode cX6_paper 37 = .ok (.iconst 0, 1) := by decide +kernel
theorem dX6_paper_38 : decode cX6_paper 38 = .ok (.istore 4, 2) := by decide +kernel
theorem dX6_paper_40 : decode cX6_paper 40 = .ok (.iload 4, 2) := by decide +kernel
theorem dX6_paper_42 : decode cX6_paper 42 = .ok (.aload_n 0, 1) := by decide +kernel
theorem dX6_paper_43 : decode cX6_paper 43 = .ok (.getfield 9, 3) := by decide +kernel
theorem dX6_paper_46 : decode cX6_paper 46 = .ok (.bipush 7, 2) := by decide +kernel
theorem dX6_paper_48 : decode cX6_paper 48 = .ok (.iaload, 1) := by decide +kernel
theorem dX6_paper_49 : decode cX6_paper 49 = .ok (.if_icmp .ge 83, 3) := by decide +kernel
theorem dX6_paper_52 : decode cX6_paper 52 = .ok (.iload 4, 2) := by decide +kernel
theorem dX6_paper_54 : decode cX6_paper 54 = .ok (.iload_n 1, 1) := by decide +kernel
theorem dX6_paper_55 : decode cX6_paper 55 = .ok (.invokestatic 81, 3) := by decide +kernel
theorem dX6_paper_58 : decode cX6_paper 58 = .ok (.istore 5, 2) := by decide +kernel
theorem dX6_paper_60 : decode cX6_paper 60 = .ok (.iload_n 2, 1) := by decide +kernel
theorem dX6_paper_61 : decode cX6_paper 61 = .ok (.iconst 3, 1) := by decide +kernel
theorem dX6_paper_62 : decode cX6_paper 62 = .ok (.if_icmp .ne 13, 3) := by decide +kernel
theorem dX6_paper_65 : decode cX6_paper 65 = .ok (.aload_n 0, 1) := by decide +kernel
theorem dX6_paper_66 : decode cX6_paper 66 = .ok (.getfield 9, 3) := by decide +kernel
theorem dX6_paper_69 : decode cX6_paper 69 = .ok (.iload 5, 2) := by decide +kernel
theorem dX6_paper_71 : decode cX6_paper 71 = .ok (.iaload, 1) := by decide +kernel
theorem dX6_paper_72 : decode cX6_paper 72 = .ok (.ifCond .gt 20, 3) := by decide +kernel
theorem dX6_paper_75 : decode cX6_paper 75 = .ok (.iload_n 2, 1) := by decide +kernel
theorem dX6_paper_76 : decode cX6_paper 76 = .ok (.iconst 4, 1) := by decide +kernel
theorem dX6_paper_77 : decode cX6_paper 77 = .ok (.if_icmp .ne 18, 3) := by decide +kernel
theorem dX6_paper_80 : decode cX6_paper 80 = .ok (.aload_n 0, 1) := by decide +kernel
theorem dX6_paper_81 : decode cX6_paper 81 = .ok (.getfield 9, 3) := by decide +kernel
theorem dX6_paper_84 : decode cX6_paper 84 = .ok (.iload 5, 2) := by decide +kernel
theorem dX6_paper_86 : decode cX6_paper 86 = .ok (.iconst 2, 1) := by decide +kernel
theorem dX6_paper_87 : decode cX6_paper 87 = .ok (.iadd, 1) := by decide +kernel
theorem dX6_paper_88 : decode cX6_paper 88 = .ok (.iaload, 1) := by decide +kernel
theorem dX6_paper_89 : decode cX6_paper 89 = .ok (.ifCond .lt 6, 3) := by decide +kernel
theorem dX6_paper_92 : decode cX6_paper 92 = .ok (.iinc 3 1, 3) := by decide +kernel
theorem dX6_paper_95 : decode cX6_paper 95 = .ok (.iload_n 2, 1) := by decide +kernel
theorem dX6_paper_96 : decode cX6_paper 96 = .ok (.iconst 5, 1) := by decide +kernel
theorem dX6_paper_97 : decode cX6_paper 97 = .ok (.if_icmp .ge 6, 3) := by decide +kernel
theorem dX6_paper_100 : decode cX6_paper 100 = .ok (.goto 26, 3) := by decide +kernel
theorem dX6_paper_103 : decode cX6_paper 103 = .ok (.aload_n 0, 1) := by decide +kernel
theorem dX6_paper_104 : decode cX6_paper 104 = .ok (.iload 4, 2) := by decide +kernel
theorem dX6_paper_106 : decode cX6_paper 106 = .ok (.iconst (-1), 1) := by decide +kernel
theorem dX6_paper_107 : decode cX6_paper 107 = .ok (.iconst 0, 1) := by decide +kernel
theorem dX6_paper_108 : decode cX6_paper 108 = .ok (.invokevirtual 90, 3) := by decide +kernel
theorem dX6_paper_111 : decode cX6_paper 111 = .ok (.aload_n 0, 1) := by decide +kernel
theorem dX6_paper_112 : decode cX6_paper 112 = .ok (.getfield 31, 3) := by decide +kernel
theorem dX6_paper_115 : decode cX6_paper 115 = .ok (.iload_n 1, 1) := by decide +kernel
theorem dX6_paper_116 : decode cX6_paper 116 = .ok (.iaload, 1) := by decide +kernel
theorem dX6_paper_117 : decode cX6_paper 117 = .ok (.iload_n 2, 1) := by decide +kernel
theorem dX6_paper_118 : decode cX6_paper 118 = .ok (.iconst 4, 1) := by decide +kernel
theorem dX6_paper_119 : decode cX6_paper 119 = .ok (.isub, 1) := by decide +kernel
theorem dX6_paper_120 : decode cX6_paper 120 = .ok (.if_icmp .ne 6, 3) := by decide +kernel
theorem dX6_paper_123 : decode cX6_paper 123 = .ok (.iinc 3 1, 3) := by decide +kernel
theorem dX6_paper_126 : decode cX6_paper 126 = .ok (.iinc 4 1, 3) := by decide +kernel
theorem dX6_paper_129 : decode cX6_paper 129 = .ok (.goto (-89), 3) := by decide +kernel
theorem dX6_paper_132 : decode cX6_paper 132 = .ok (.iload_n 3, 1) := by decide +kernel
theorem dX6_paper_133 : decode cX6_paper 133 = .ok (.ireturn, 1) := by decide +kernel
theorem dX6_percent_0 : decode cX6_percent 0 = .ok (.bipush 100, 2) := by decide +kernel
theorem dX6_percent_2 : decode cX6_percent 2 = .ok (.iload_n 2, 1) := by decide +kernel
theorem dX6_percent_3 : decode cX6_percent 3 = .ok (.imul, 1) := by decide +kernel
theorem dX6_percent_4 : decode cX6_percent 4 = .ok (.aload_n 0, 1) := by decide +kernel
theorem dX6_percent_5 : decode cX6_percent 5 = .ok (.iload_n 1, 1) := by decide +kernel
theorem dX6_percent_6 : decode cX6_percent 6 = .ok (.iconst 2, 1) := by decide +kernel
theorem dX6_percent_7 : decode cX6_percent 7 = .ok (.invokevirtual 87, 3) := by decide +kernel
theorem dX6_percent_10 : decode cX6_percent 10 = .ok (.invokestatic 94, 3) := by decide +kernel
theorem dX6_percent_13 : decode cX6_percent 13 = .ok (.ireturn, 1) := by decide +kernel
theorem dX6_first_0 : decode cX6_first 0 = .ok (.iload_n 1, 1) := by decide +kernel
theorem dX6_first_1 : decode cX6_first 1 = .ok (.iload_n 2, 1) := by decide +kernel
theorem dX6_first_2 : decode cX6_first 2 = .ok (.invokestatic 81, 3) := by decide +kernel
theorem dX6_first_5 : decode cX6_first 5 = .ok (.istore_n 3, 1) := by decide +kernel
theorem dX6_first_6 : decode cX6_first 6 = .ok (.aload_n 0, 1) := by decide +kernel
theorem dX6_first_7 : decode cX6_first 7 = .ok (.getfield 9, 3) := by decide +kernel
theorem dX6_first_10 : decode cX6_first 10 = .ok (.iload_n 3, 1) := by decide +kernel
theorem dX6_first_11 : decode cX6_first 11 = .ok (.iaload, 1) := by decide +kernel
theorem dX6_first_12 : decode cX6_first 12 = .ok (.iconst 1, 1) := by decide +kernel
theorem dX6_first_13 : decode cX6_first 13 = .ok (.if_icmp .ne 19, 3) := by decide +kernel
theorem dX6_first_16 : decode cX6_first 16 = .ok (.aload_n 0, 1) := by decide +kernel
theorem dX6_first_17 : decode cX6_first 17 = .ok (.iload_n 2, 1) := by decide +kernel
theorem dX6_first_18 : decode cX6_first 18 = .ok (.aload_n 0, 1) := by decide +kernel
theorem dX6_first_19 : decode cX6_first 19 = .ok (.getfield 9, 3) := by decide +kernel
theorem dX6_first_22 : decode cX6_first 22 = .ok (.iload_n 3, 1) := by decide +kernel
theorem dX6_first_23 : decode cX6_first 23 = .ok (.iconst 1, 1) := by decide +kernel
theorem dX6_first_24 : decode cX6_first 24 = .ok (.iadd, 1) := by decide +kernel
theorem dX6_first_25 : decode cX6_first 25 = .ok (.iaload, 1) := by decide +kernel
theorem dX6_first_26 : decode cX6_first 26 = .ok (.invokevirtual 97, 3) := by decide +kernel
theorem dX6_first_29 : decode cX6_first 29 = .ok (.goto 4, 3) := by decide +kernel
theorem dX6_first_32 : decode cX6_first 32 = .ok (.iconst 0, 1) := by decide +kernel
theorem dX6_first_33 : decode cX6_first 33 = .ok (.ireturn, 1) := by decide +kernel
theorem dX6_percents_0 : decode cX6_percents 0 = .ok (.iconst 0, 1) := by decide +kernel
theorem dX6_percents_1 : decode cX6_percents 1 = .ok (.istore 4, 2) := by decide +kernel
theorem dX6_percents_3 : decode cX6_percents 3 = .ok (.iconst 0, 1) := by decide +kernel
theorem dX6_percents_4 : decode cX6_percents 4 = .ok (.istore 5, 2) := by decide +kernel
theorem dX6_percents_6 : decode cX6_percents 6 = .ok (.iload 5, 2) := by decide +kernel
theorem dX6_percents_8 : decode cX6_percents 8 = .ok (.aload_n 0, 1) := by decide +kernel
theorem dX6_percents_9 : decode cX6_percents 9 = .ok (.getfield 9, 3) := by decide +kernel
theorem dX6_percents_12 : decode cX6_percents 12 = .ok (.bipush 7, 2) := by decide +kernel
theorem dX6_percents_14 : decode cX6_percents 14 = .ok (.iaload, 1) := by decide +kernel
theorem dX6_percents_15 : decode cX6_percents 15 = .ok (.if_icmp .ge 61, 3) := by decide +kernel
theorem dX6_percents_18 : decode cX6_percents 18 = .ok (.aload_n 0, 1) := by decide +kernel
theorem dX6_percents_19 : decode cX6_percents 19 = .ok (.getfield 9, 3) := by decide +kernel
theorem dX6_percents_22 : decode cX6_percents 22 = .ok (.bipush 37, 2) := by decide +kernel
theorem dX6_percents_24 : decode cX6_percents 24 = .ok (.iload 5, 2) := by decide +kernel
theorem dX6_percents_26 : decode cX6_percents 26 = .ok (.iadd, 1) := by decide +kernel
theorem dX6_percents_27 : decode cX6_percents 27 = .ok (.iaload, 1) := by decide +kernel
theorem dX6_percents_28 : decode cX6_percents 28 = .ok (.iload_n 2, 1) := by decide +kernel
theorem dX6_percents_29 : decode cX6_percents 29 = .ok (.if_icmp .ne 41, 3) := by decide +kernel
theorem dX6_percents_32 : decode cX6_percents 32 = .ok (.aload_n 0, 1) := by decide +kernel
theorem dX6_percents_33 : decode cX6_percents 33 = .ok (.getfield 9, 3) := by decide +kernel
theorem dX6_percents_36 : decode cX6_percents 36 = .ok (.iload 5, 2) := by decide +kernel
theorem dX6_percents_38 : decode cX6_percents 38 = .ok (.iload_n 1, 1) := by decide +kernel
theorem dX6_percents_39 : decode cX6_percents 39 = .ok (.invokestatic 81, 3) := by decide +kernel
theorem dX6_percents_42 : decode cX6_percents 42 = .ok (.iaload, 1) := by decide +kernel
theorem dX6_percents_43 : decode cX6_percents 43 = .ok (.iconst 1, 1) := by decide +kernel
theorem dX6_percents_44 : decode cX6_percents 44 = .ok (.if_icmp .eq 6, 3) := by decide +kernel
theorem dX6_percents_47 : decode cX6_percents 47 = .ok (.goto 23, 3) := by decide +kernel
theorem dX6_percents_50 : decode cX6_percents 50 = .ok (.iload 4, 2) := by decide +kernel
theorem dX6_percents_52 : decode cX6_percents 52 = .ok (.iload_n 3, 1) := by decide +kernel
theorem dX6_percents_53 : decode cX6_percents 53 = .ok (.ifCond .eq 7, 3) := by decide +kernel
theorem dX6_percents_56 : decode cX6_percents 56 = .ok (.iconst 1, 1) := by decide +kernel
theorem dX6_percents_57 : decode cX6_percents 57 = .ok (.goto 10, 3) := by decide +kernel
theorem dX6_percents_60 : decode cX6_percents 60 = .ok (.aload_n 0, 1) := by decide +kernel
theorem dX6_percents_61 : decode cX6_percents 61 = .ok (.iload 5, 2) := by decide +kernel
theorem dX6_percents_63 : decode cX6_percents 63 = .ok (.iload_n 1, 1) := by decide +kernel
theorem dX6_percents_64 : decode cX6_percents 64 = .ok (.invokevirtual 100, 3) := by decide +kernel
theorem dX6_percents_67 : decode cX6_percents 67 = .ok (.iadd, 1) := by decide +kernel
theorem dX6_percents_68 : decode cX6_percents 68 = .ok (.istore 4, 2) := by decide +kernel
theorem dX6_percents_70 : decode cX6_percents 70 = .ok (.iinc 5 1, 3) := by decide +kernel
theorem dX6_percents_73 : decode cX6_percents 73 = .ok (.goto (-67), 3) := by decide +kernel
theorem dX6_percents_76 : decode cX6_percents 76 = .ok (.iload 4, 2) := by decide +kernel
theorem dX6_percents_78 : decode cX6_percents 78 = .ok (.ireturn, 1) := by decide +kernel
theorem dX6_by_0 : decode cX6_by 0 = .ok (.sipush 537, 3) := by decide +kernel
theorem dX6_by_3 : decode cX6_by 3 = .ok (.iconst 2, 1) := by decide +kernel
theorem dX6_by_4 : decode cX6_by 4 = .ok (.iconst 3, 1) := by decide +kernel
theorem dX6_by_5 : decode cX6_by 5 = .ok (.iload_n 1, 1) := by decide +kernel
theorem dX6_by_6 : decode cX6_by 6 = .ok (.imul, 1) := by decide +kernel
theorem dX6_by_7 : decode cX6_by 7 = .ok (.iload_n 2, 1) := by decide +kernel
theorem dX6_by_8 : decode cX6_by 8 = .ok (.iadd, 1) := by decide +kernel
theorem dX6_by_9 : decode cX6_by 9 = .ok (.imul, 1) := by decide +kernel
theorem dX6_by_10 : decode cX6_by 10 = .ok (.iadd, 1) := by decide +kernel
theorem dX6_by_11 : decode cX6_by 11 = .ok (.istore 4, 2) := by decide +kernel
theorem dX6_by_13 : decode cX6_by 13 = .ok (.aload_n 0, 1) := by decide +kernel
theorem dX6_by_14 : decode cX6_by 14 = .ok (.getfield 9, 3) := by decide +kernel
theorem dX6_by_17 : decode cX6_by 17 = .ok (.iload 4, 2) := by decide +kernel
theorem dX6_by_19 : decode cX6_by 19 = .ok (.iconst 1, 1) := by decide +kernel
theorem dX6_by_20 : decode cX6_by 20 = .ok (.iadd, 1) := by decide +kernel
theorem dX6_by_21 : decode cX6_by 21 = .ok (.iaload, 1) := by decide +kernel
theorem dX6_by_22 : decode cX6_by 22 = .ok (.istore 5, 2) := by decide +kernel
theorem dX6_by_24 : decode cX6_by 24 = .ok (.iload_n 3, 1) := by decide +kernel
theorem dX6_by_25 : decode cX6_by 25 = .ok (.istore 6, 2) := by decide +kernel
theorem dX6_by_27 : decode cX6_by 27 = .ok (.aload_n 0, 1) := by decide +kernel
theorem dX6_by_28 : decode cX6_by 28 = .ok (.getfield 9, 3) := by decide +kernel
theorem dX6_by_31 : decode cX6_by 31 = .ok (.iload 4, 2) := by decide +kernel
theorem dX6_by_33 : decode cX6_by 33 = .ok (.iaload, 1) := by decide +kernel
theorem dX6_by_34 : decode cX6_by 34 = .ok (.iconst 1, 1) := by decide +kernel
theorem dX6_by_35 : decode cX6_by 35 = .ok (.if_icmp .ne 10, 3) := by decide +kernel
theorem dX6_by_38 : decode cX6_by 38 = .ok (.iload 6, 2) := by decide +kernel
theorem dX6_by_40 : decode cX6_by 40 = .ok (.iload 5, 2) := by decide +kernel
theorem dX6_by_42 : decode cX6_by 42 = .ok (.iadd, 1) := by decide +kernel
theorem dX6_by_43 : decode cX6_by 43 = .ok (.istore 6, 2) := by decide +kernel
theorem dX6_by_45 : decode cX6_by 45 = .ok (.aload_n 0, 1) := by decide +kernel
theorem dX6_by_46 : decode cX6_by 46 = .ok (.getfield 9, 3) := by decide +kernel
theorem dX6_by_49 : decode cX6_by 49 = .ok (.iload 4, 2) := by decide +kernel
theorem dX6_by_51 : decode cX6_by 51 = .ok (.iaload, 1) := by decide +kernel
theorem dX6_by_52 : decode cX6_by 52 = .ok (.iconst 2, 1) := by decide +kernel
theorem dX6_by_53 : decode cX6_by 53 = .ok (.if_icmp .ne 20, 3) := by decide +kernel
theorem dX6_by_56 : decode cX6_by 56 = .ok (.bipush 50, 2) := by decide +kernel
theorem dX6_by_58 : decode cX6_by 58 = .ok (.iload_n 3, 1) := by decide +kernel
theorem dX6_by_59 : decode cX6_by 59 = .ok (.bipush 50, 2) := by decide +kernel
theorem dX6_by_61 : decode cX6_by 61 = .ok (.isub, 1) := by decide +kernel
theorem dX6_by_62 : decode cX6_by 62 = .ok (.iload 5, 2) := by decide +kernel
theorem dX6_by_64 : decode cX6_by 64 = .ok (.imul, 1) := by decide +kernel
theorem dX6_by_65 : decode cX6_by 65 = .ok (.bipush 100, 2) := by decide +kernel
theorem dX6_by_67 : decode cX6_by 67 = .ok (.invokestatic 60, 3) := by decide +kernel
theorem dX6_by_70 : decode cX6_by 70 = .ok (.iadd, 1) := by decide +kernel
theorem dX6_by_71 : decode cX6_by 71 = .ok (.istore 6, 2) := by decide +kernel
theorem dX6_by_73 : decode cX6_by 73 = .ok (.aload_n 0, 1) := by decide +kernel
theorem dX6_by_74 : decode cX6_by 74 = .ok (.iload_n 1, 1) := by decide +kernel
theorem dX6_by_75 : decode cX6_by 75 = .ok (.iload_n 2, 1) := by decide +kernel
theorem dX6_by_76 : decode cX6_by 76 = .ok (.iconst 1, 1) := by decide +kernel
theorem dX6_by_77 : decode cX6_by 77 = .ok (.invokevirtual 103, 3) := by decide +kernel
theorem dX6_by_80 : decode cX6_by 80 = .ok (.istore 7, 2) := by decide +kernel
theorem dX6_by_82 : decode cX6_by 82 = .ok (.aload_n 0, 1) := by decide +kernel
theorem dX6_by_83 : decode cX6_by 83 = .ok (.getfield 9, 3) := by decide +kernel
theorem dX6_by_86 : decode cX6_by 86 = .ok (.iload 4, 2) := by decide +kernel
theorem dX6_by_88 : decode cX6_by 88 = .ok (.iaload, 1) := by decide +kernel
theorem dX6_by_89 : decode cX6_by 89 = .ok (.iconst 3, 1) := by decide +kernel
theorem dX6_by_90 : decode cX6_by 90 = .ok (.if_icmp .ne 28, 3) := by decide +kernel
theorem dX6_by_93 : decode cX6_by 93 = .ok (.iload 7, 2) := by decide +kernel
theorem dX6_by_95 : decode cX6_by 95 = .ok (.ifCond .le 23, 3) := by decide +kernel
theorem dX6_by_98 : decode cX6_by 98 = .ok (.iload 6, 2) := by decide +kernel
theorem dX6_by_100 : decode cX6_by 100 = .ok (.iload 5, 2) := by decide +kernel
theorem dX6_by_102 : decode cX6_by 102 = .ok (.aload_n 0, 1) := by decide +kernel
theorem dX6_by_103 : decode cX6_by 103 = .ok (.iload_n 1, 1) := by decide +kernel
theorem dX6_by_104 : decode cX6_by 104 = .ok (.iload_n 2, 1) := by decide +kernel
theorem dX6_by_105 : decode cX6_by 105 = .ok (.iconst 0, 1) := by decide +kernel
theorem dX6_by_106 : decode cX6_by 106 = .ok (.invokevirtual 103, 3) := by decide +kernel
theorem dX6_by_109 : decode cX6_by 109 = .ok (.iload 7, 2) := by decide +kernel
theorem dX6_by_111 : decode cX6_by 111 = .ok (.invokestatic 94, 3) := by decide +kernel
theorem dX6_by_114 : decode cX6_by 114 = .ok (.isub, 1) := by decide +kernel
theorem dX6_by_115 : decode cX6_by 115 = .ok (.iadd, 1) := by decide +kernel
theorem dX6_by_116 : decode cX6_by 116 = .ok (.istore 6, 2) := by decide +kernel
theorem dX6_by_118 : decode cX6_by 118 = .ok (.iconst 0, 1) := by decide +kernel
theorem dX6_by_119 : decode cX6_by 119 = .ok (.bipush 100, 2) := by decide +kernel
theorem dX6_by_121 : decode cX6_by 121 = .ok (.iload 6, 2) := by decide +kernel
theorem dX6_by_123 : decode cX6_by 123 = .ok (.invokestatic 107, 3) := by decide +kernel
theorem dX6_by_126 : decode cX6_by 126 = .ok (.invokestatic 110, 3) := by decide +kernel
theorem dX6_by_129 : decode cX6_by 129 = .ok (.ireturn, 1) := by decide +kernel
theorem dX6_scaledOf_0 : decode cX6_scaledOf 0 = .ok (.aload_n 0, 1) := by decide +kernel
theorem dX6_scaledOf_1 : decode cX6_scaledOf 1 = .ok (.getfield 9, 3) := by decide +kernel
theorem dX6_scaledOf_4 : decode cX6_scaledOf 4 = .ok (.iload_n 1, 1) := by decide +kernel
theorem dX6_scaledOf_5 : decode cX6_scaledOf 5 = .ok (.iload_n 2, 1) := by decide +kernel
theorem dX6_scaledOf_6 : decode cX6_scaledOf 6 = .ok (.invokestatic 81, 3) := by decide +kernel
theorem dX6_scaledOf_9 : decode cX6_scaledOf 9 = .ok (.iaload, 1) := by decide +kernel
theorem dX6_scaledOf_10 : decode cX6_scaledOf 10 = .ok (.iconst 1, 1) := by decide +kernel
theorem dX6_scaledOf_11 : decode cX6_scaledOf 11 = .ok (.if_icmp .ne 26, 3) := by decide +kernel
theorem dX6_scaledOf_14 : decode cX6_scaledOf 14 = .ok (.aload_n 0, 1) := by decide +kernel
theorem dX6_scaledOf_15 : decode cX6_scaledOf 15 = .ok (.iload_n 2, 1) := by decide +kernel
theorem dX6_scaledOf_16 : decode cX6_scaledOf 16 = .ok (.aload_n 0, 1) := by decide +kernel
theorem dX6_scaledOf_17 : decode cX6_scaledOf 17 = .ok (.getfield 9, 3) := by decide +kernel
theorem dX6_scaledOf_20 : decode cX6_scaledOf 20 = .ok (.bipush 37, 2) := by decide +kernel
theorem dX6_scaledOf_22 : decode cX6_scaledOf 22 = .ok (.iload_n 1, 1) := by decide +kernel
theorem dX6_scaledOf_23 : decode cX6_scaledOf 23 = .ok (.iadd, 1) := by decide +kernel
theorem dX6_scaledOf_24 : decode cX6_scaledOf 24 = .ok (.iaload, 1) := by decide +kernel
theorem dX6_scaledOf_25 : decode cX6_scaledOf 25 = .ok (.aload_n 0, 1) := by decide +kernel
theorem dX6_scaledOf_26 : decode cX6_scaledOf 26 = .ok (.iload_n 1, 1) := by decide +kernel
theorem dX6_scaledOf_27 : decode cX6_scaledOf 27 = .ok (.iload_n 2, 1) := by decide +kernel
theorem dX6_scaledOf_28 : decode cX6_scaledOf 28 = .ok (.invokevirtual 100, 3) := by decide +kernel
theorem dX6_scaledOf_31 : decode cX6_scaledOf 31 = .ok (.invokevirtual 113, 3) := by decide +kernel
theorem dX6_scaledOf_34 : decode cX6_scaledOf 34 = .ok (.goto 4, 3) := by decide +kernel
theorem dX6_scaledOf_37 : decode cX6_scaledOf 37 = .ok (.iconst 0, 1) := by decide +kernel
theorem dX6_scaledOf_38 : decode cX6_scaledOf 38 = .ok (.ireturn, 1) := by decide +kernel
theorem dX6_again_0 : decode cX6_again 0 = .ok (.iload_n 1, 1) := by decide +kernel
theorem dX6_again_1 : decode cX6_again 1 = .ok (.iload_n 2, 1) := by decide +kernel
theorem dX6_again_2 : decode cX6_again 2 = .ok (.invokestatic 81, 3) := by decide +kernel
theorem dX6_again_5 : decode cX6_again 5 = .ok (.istore_n 3, 1) := by decide +kernel
theorem dX6_again_6 : decode cX6_again 6 = .ok (.aload_n 0, 1) := by decide +kernel
theorem dX6_again_7 : decode cX6_again 7 = .ok (.getfield 9, 3) := by decide +kernel
theorem dX6_again_10 : decode cX6_again 10 = .ok (.iload_n 3, 1) := by decide +kernel
theorem dX6_again_11 : decode cX6_again 11 = .ok (.iconst 2, 1) := by decide +kernel
theorem dX6_again_12 : decode cX6_again 12 = .ok (.iadd, 1) := by decide +kernel
theorem dX6_again_13 : decode cX6_again 13 = .ok (.iaload, 1) := by decide +kernel
theorem dX6_again_14 : decode cX6_again 14 = .ok (.ifCond .ge 5, 3) := by decide +kernel
theorem dX6_again_17 : decode cX6_again 17 = .ok (.iconst (-1), 1) := by decide +kernel
theorem dX6_again_18 : decode cX6_again 18 = .ok (.ireturn, 1) := by decide +kernel
theorem dX6_again_19 : decode cX6_again 19 = .ok (.aload_n 0, 1) := by decide +kernel
theorem dX6_again_20 : decode cX6_again 20 = .ok (.iload_n 2, 1) := by decide +kernel
theorem dX6_again_21 : decode cX6_again 21 = .ok (.aload_n 0, 1) := by decide +kernel
theorem dX6_again_22 : decode cX6_again 22 = .ok (.getfield 9, 3) := by decide +kernel
theorem dX6_again_25 : decode cX6_again 25 = .ok (.iload_n 3, 1) := by decide +kernel
theorem dX6_again_26 : decode cX6_again 26 = .ok (.iconst 2, 1) := by decide +kernel
theorem dX6_again_27 : decode cX6_again 27 = .ok (.iadd, 1) := by decide +kernel
theorem dX6_again_28 : decode cX6_again 28 = .ok (.iaload, 1) := by decide +kernel
theorem dX6_again_29 : decode cX6_again 29 = .ok (.invokevirtual 97, 3) := by decide +kernel
theorem dX6_again_32 : decode cX6_again 32 = .ok (.istore 4, 2) := by decide +kernel
theorem dX6_again_34 : decode cX6_again 34 = .ok (.aload_n 0, 1) := by decide +kernel
theorem dX6_again_35 : decode cX6_again 35 = .ok (.getfield 9, 3) := by decide +kernel
theorem dX6_again_38 : decode cX6_again 38 = .ok (.iload_n 3, 1) := by decide +kernel
theorem dX6_again_39 : decode cX6_again 39 = .ok (.iaload, 1) := by decide +kernel
theorem dX6_again_40 : decode cX6_again 40 = .ok (.iconst 3, 1) := by decide +kernel
theorem dX6_again_41 : decode cX6_again 41 = .ok (.if_icmp .ne 8, 3) := by decide +kernel
theorem dX6_again_44 : decode cX6_again 44 = .ok (.iload 4, 2) := by decide +kernel
theorem dX6_again_46 : decode cX6_again 46 = .ok (.goto 14, 3) := by decide +kernel
theorem dX6_again_49 : decode cX6_again 49 = .ok (.iload 4, 2) := by decide +kernel
theorem dX6_again_51 : decode cX6_again 51 = .ok (.aload_n 0, 1) := by decide +kernel
theorem dX6_again_52 : decode cX6_again 52 = .ok (.getfield 9, 3) := by decide +kernel
theorem dX6_again_55 : decode cX6_again 55 = .ok (.iconst 4, 1) := by decide +kernel
theorem dX6_again_56 : decode cX6_again 56 = .ok (.iaload, 1) := by decide +kernel
theorem dX6_again_57 : decode cX6_again 57 = .ok (.invokestatic 107, 3) := by decide +kernel
theorem dX6_again_60 : decode cX6_again 60 = .ok (.ireturn, 1) := by decide +kernel
theorem dX6_markOf_0 : decode cX6_markOf 0 = .ok (.aload_n 0, 1) := by decide +kernel
theorem dX6_markOf_1 : decode cX6_markOf 1 = .ok (.getfield 9, 3) := by decide +kernel
theorem dX6_markOf_4 : decode cX6_markOf 4 = .ok (.iload_n 1, 1) := by decide +kernel
theorem dX6_markOf_5 : decode cX6_markOf 5 = .ok (.iload_n 2, 1) := by decide +kernel
theorem dX6_markOf_6 : decode cX6_markOf 6 = .ok (.invokestatic 81, 3) := by decide +kernel
theorem dX6_markOf_9 : decode cX6_markOf 9 = .ok (.iaload, 1) := by decide +kernel
theorem dX6_markOf_10 : decode cX6_markOf 10 = .ok (.ifCond .ne 7, 3) := by decide +kernel
theorem dX6_markOf_13 : decode cX6_markOf 13 = .ok (.iconst (-1), 1) := by decide +kernel
theorem dX6_markOf_14 : decode cX6_markOf 14 = .ok (.goto 18, 3) := by decide +kernel
theorem dX6_markOf_17 : decode cX6_markOf 17 = .ok (.aload_n 0, 1) := by decide +kernel
theorem dX6_markOf_18 : decode cX6_markOf 18 = .ok (.iload_n 1, 1) := by decide +kernel
theorem dX6_markOf_19 : decode cX6_markOf 19 = .ok (.iload_n 2, 1) := by decide +kernel
theorem dX6_markOf_20 : decode cX6_markOf 20 = .ok (.invokevirtual 117, 3) := by decide +kernel
theorem dX6_markOf_23 : decode cX6_markOf 23 = .ok (.aload_n 0, 1) := by decide +kernel
theorem dX6_markOf_24 : decode cX6_markOf 24 = .ok (.iload_n 1, 1) := by decide +kernel
theorem dX6_markOf_25 : decode cX6_markOf 25 = .ok (.iload_n 2, 1) := by decide +kernel
theorem dX6_markOf_26 : decode cX6_markOf 26 = .ok (.invokevirtual 120, 3) := by decide +kernel
theorem dX6_markOf_29 : decode cX6_markOf 29 = .ok (.invokestatic 110, 3) := by decide +kernel
theorem dX6_markOf_32 : decode cX6_markOf 32 = .ok (.ireturn, 1) := by decide +kernel
theorem dX6_counts_0 : decode cX6_counts 0 = .ok (.iconst 0, 1) := by decide +kernel
theorem dX6_counts_1 : decode cX6_counts 1 = .ok (.istore_n 2, 1) := by decide +kernel
theorem dX6_counts_2 : decode cX6_counts 2 = .ok (.iload_n 2, 1) := by decide +kernel
theorem dX6_counts_3 : decode cX6_counts 3 = .ok (.aload_n 0, 1) := by decide +kernel
theorem dX6_counts_4 : decode cX6_counts 4 = .ok (.getfield 9, 3) := by decide +kernel
theorem dX6_counts_7 : decode cX6_counts 7 = .ok (.bipush 6, 2) := by decide +kernel
theorem dX6_counts_9 : decode cX6_counts 9 = .ok (.iaload, 1) := by decide +kernel
theorem dX6_counts_10 : decode cX6_counts 10 = .ok (.if_icmp .ge 21, 3) := by decide +kernel
theorem dX6_counts_13 : decode cX6_counts 13 = .ok (.aload_n 0, 1) := by decide +kernel
theorem dX6_counts_14 : decode cX6_counts 14 = .ok (.iload_n 2, 1) := by decide +kernel
theorem dX6_counts_15 : decode cX6_counts 15 = .ok (.iconst 0, 1) := by decide +kernel
theorem dX6_counts_16 : decode cX6_counts 16 = .ok (.invokevirtual 87, 3) := by decide +kernel
theorem dX6_counts_19 : decode cX6_counts 19 = .ok (.iload_n 1, 1) := by decide +kernel
theorem dX6_counts_20 : decode cX6_counts 20 = .ok (.if_icmp .ne 5, 3) := by decide +kernel
theorem dX6_counts_23 : decode cX6_counts 23 = .ok (.iconst 1, 1) := by decide +kernel
theorem dX6_counts_24 : decode cX6_counts 24 = .ok (.ireturn, 1) := by decide +kernel
theorem dX6_counts_25 : decode cX6_counts 25 = .ok (.iinc 2 1, 3) := by decide +kernel
theorem dX6_counts_28 : decode cX6_counts 28 = .ok (.goto (-26), 3) := by decide +kernel
theorem dX6_counts_31 : decode cX6_counts 31 = .ok (.iconst 0, 1) := by decide +kernel
theorem dX6_counts_32 : decode cX6_counts 32 = .ok (.ireturn, 1) := by decide +kernel
theorem dX6_looks_0 : decode cX6_looks 0 = .ok (.aload_n 0, 1) := by decide +kernel
theorem dX6_looks_1 : decode cX6_looks 1 = .ok (.iconst 0, 1) := by decide +kernel
theorem dX6_looks_2 : decode cX6_looks 2 = .ok (.putfield 123, 3) := by decide +kernel
theorem dX6_looks_5 : decode cX6_looks 5 = .ok (.aload_n 0, 1) := by decide +kernel
theorem dX6_looks_6 : decode cX6_looks 6 = .ok (.iconst 0, 1) := by decide +kernel
theorem dX6_looks_7 : decode cX6_looks 7 = .ok (.putfield 126, 3) := by decide +kernel
theorem dX6_looks_10 : decode cX6_looks 10 = .ok (.iconst 0, 1) := by decide +kernel
theorem dX6_looks_11 : decode cX6_looks 11 = .ok (.istore 4, 2) := by decide +kernel
theorem dX6_looks_13 : decode cX6_looks 13 = .ok (.iload 4, 2) := by decide +kernel
theorem dX6_looks_15 : decode cX6_looks 15 = .ok (.aload_n 0, 1) := by decide +kernel
theorem dX6_looks_16 : decode cX6_looks 16 = .ok (.getfield 9, 3) := by decide +kernel
theorem dX6_looks_19 : decode cX6_looks 19 = .ok (.bipush 6, 2) := by decide +kernel
theorem dX6_looks_21 : decode cX6_looks 21 = .ok (.iaload, 1) := by decide +kernel
theorem dX6_looks_22 : decode cX6_looks 22 = .ok (.if_icmp .ge 33, 3) := by decide +kernel
theorem dX6_looks_25 : decode cX6_looks 25 = .ok (.aload_n 0, 1) := by decide +kernel
theorem dX6_looks_26 : decode cX6_looks 26 = .ok (.getfield 28, 3) := by decide +kernel
theorem dX6_looks_29 : decode cX6_looks 29 = .ok (.iload 4, 2) := by decide +kernel
theorem dX6_looks_31 : decode cX6_looks 31 = .ok (.iload 4, 2) := by decide +kernel
theorem dX6_looks_33 : decode cX6_looks 33 = .ok (.iload_n 2, 1) := by decide +kernel
theorem dX6_looks_34 : decode cX6_looks 34 = .ok (.if_icmp .ne 7, 3) := by decide +kernel
theorem dX6_looks_37 : decode cX6_looks 37 = .ok (.iload_n 3, 1) := by decide +kernel
theorem dX6_looks_38 : decode cX6_looks 38 = .ok (.goto 10, 3) := by decide +kernel
theorem dX6_looks_41 : decode cX6_looks 41 = .ok (.aload_n 0, 1) := by decide +kernel
theorem dX6_looks_42 : decode cX6_looks 42 = .ok (.iload_n 1, 1) := by decide +kernel
theorem dX6_looks_43 : decode cX6_looks 43 = .ok (.iload 4, 2) := by decide +kernel
theorem dX6_looks_45 : decode cX6_looks 45 = .ok (.invokevirtual 129, 3) := by decide +kernel
theorem dX6_looks_48 : decode cX6_looks 48 = .ok (.iastore, 1) := by decide +kernel
theorem dX6_looks_49 : decode cX6_looks 49 = .ok (.iinc 4 1, 3) := by decide +kernel
theorem dX6_looks_52 : decode cX6_looks 52 = .ok (.goto (-39), 3) := by decide +kernel
theorem dX6_looks_55 : decode cX6_looks 55 = .ok (.iconst 0, 1) := by decide +kernel
theorem dX6_looks_56 : decode cX6_looks 56 = .ok (.istore 4, 2) := by decide +kernel
theorem dX6_looks_58 : decode cX6_looks 58 = .ok (.iload 4, 2) := by decide +kernel
theorem dX6_looks_60 : decode cX6_looks 60 = .ok (.aload_n 0, 1) := by decide +kernel
theorem dX6_looks_61 : decode cX6_looks 61 = .ok (.getfield 9, 3) := by decide +kernel
theorem dX6_looks_64 : decode cX6_looks 64 = .ok (.iconst 5, 1) := by decide +kernel
theorem dX6_looks_65 : decode cX6_looks 65 = .ok (.iaload, 1) := by decide +kernel
theorem dX6_looks_66 : decode cX6_looks 66 = .ok (.if_icmp .ge 149, 3) := by decide +kernel
theorem dX6_looks_69 : decode cX6_looks 69 = .ok (.iconst 0, 1) := by decide +kernel
theorem dX6_looks_70 : decode cX6_looks 70 = .ok (.istore 5, 2) := by decide +kernel
theorem dX6_looks_72 : decode cX6_looks 72 = .ok (.iconst 0, 1) := by decide +kernel
theorem dX6_looks_73 : decode cX6_looks 73 = .ok (.istore 6, 2) := by decide +kernel
theorem dX6_looks_75 : decode cX6_looks 75 = .ok (.iconst 1, 1) := by decide +kernel
theorem dX6_looks_76 : decode cX6_looks 76 = .ok (.istore 7, 2) := by decide +kernel
theorem dX6_looks_78 : decode cX6_looks 78 = .ok (.iconst 0, 1) := by decide +kernel
theorem dX6_looks_79 : decode cX6_looks 79 = .ok (.istore 8, 2) := by decide +kernel
theorem dX6_looks_81 : decode cX6_looks 81 = .ok (.iload 8, 2) := by decide +kernel
theorem dX6_looks_83 : decode cX6_looks 83 = .ok (.aload_n 0, 1) := by decide +kernel
theorem dX6_looks_84 : decode cX6_looks 84 = .ok (.getfield 9, 3) := by decide +kernel
theorem dX6_looks_87 : decode cX6_looks 87 = .ok (.bipush 6, 2) := by decide +kernel
theorem dX6_looks_89 : decode cX6_looks 89 = .ok (.iaload, 1) := by decide +kernel
theorem dX6_looks_90 : decode cX6_looks 90 = .ok (.if_icmp .ge 69, 3) := by decide +kernel
theorem dX6_looks_93 : decode cX6_looks 93 = .ok (.aload_n 0, 1) := by decide +kernel
theorem dX6_looks_94 : decode cX6_looks 94 = .ok (.iload 8, 2) := by decide +kernel
theorem dX6_looks_96 : decode cX6_looks 96 = .ok (.iconst 0, 1) := by decide +kernel
theorem dX6_looks_97 : decode cX6_looks 97 = .ok (.invokevirtual 87, 3) := by decide +kernel
theorem dX6_looks_100 : decode cX6_looks 100 = .ok (.iload 4, 2) := by decide +kernel
theorem dX6_looks_102 : decode cX6_looks 102 = .ok (.if_icmp .eq 6, 3) := by decide +kernel
theorem dX6_looks_105 : decode cX6_looks 105 = .ok (.goto 48, 3) := by decide +kernel
theorem dX6_looks_108 : decode cX6_looks 108 = .ok (.aload_n 0, 1) := by decide +kernel
theorem dX6_looks_109 : decode cX6_looks 109 = .ok (.getfield 28, 3) := by decide +kernel
theorem dX6_looks_112 : decode cX6_looks 112 = .ok (.iload 8, 2) := by decide +kernel
theorem dX6_looks_114 : decode cX6_looks 114 = .ok (.iaload, 1) := by decide +kernel
theorem dX6_looks_115 : decode cX6_looks 115 = .ok (.ifCond .ge 6, 3) := by decide +kernel
theorem dX6_looks_118 : decode cX6_looks 118 = .ok (.iconst 0, 1) := by decide +kernel
theorem dX6_looks_119 : decode cX6_looks 119 = .ok (.istore 7, 2) := by decide +kernel
theorem dX6_looks_121 : decode cX6_looks 121 = .ok (.iload 5, 2) := by decide +kernel
theorem dX6_looks_123 : decode cX6_looks 123 = .ok (.aload_n 0, 1) := by decide +kernel
theorem dX6_looks_124 : decode cX6_looks 124 = .ok (.getfield 28, 3) := by decide +kernel
theorem dX6_looks_127 : decode cX6_looks 127 = .ok (.iload 8, 2) := by decide +kernel
theorem dX6_looks_129 : decode cX6_looks 129 = .ok (.iaload, 1) := by decide +kernel
theorem dX6_looks_130 : decode cX6_looks 130 = .ok (.aload_n 0, 1) := by decide +kernel
theorem dX6_looks_131 : decode cX6_looks 131 = .ok (.iload 8, 2) := by decide +kernel
theorem dX6_looks_133 : decode cX6_looks 133 = .ok (.iconst 1, 1) := by decide +kernel
theorem dX6_looks_134 : decode cX6_looks 134 = .ok (.invokevirtual 87, 3) := by decide +kernel
theorem dX6_looks_137 : decode cX6_looks 137 = .ok (.imul, 1) := by decide +kernel
theorem dX6_looks_138 : decode cX6_looks 138 = .ok (.iadd, 1) := by decide +kernel
theorem dX6_looks_139 : decode cX6_looks 139 = .ok (.istore 5, 2) := by decide +kernel
theorem dX6_looks_141 : decode cX6_looks 141 = .ok (.iload 6, 2) := by decide +kernel
theorem dX6_looks_143 : decode cX6_looks 143 = .ok (.aload_n 0, 1) := by decide +kernel
theorem dX6_looks_144 : decode cX6_looks 144 = .ok (.iload 8, 2) := by decide +kernel
theorem dX6_looks_146 : decode cX6_looks 146 = .ok (.iconst 1, 1) := by decide +kernel
theorem dX6_looks_147 : decode cX6_looks 147 = .ok (.invokevirtual 87, 3) := by decide +kernel
theorem dX6_looks_150 : decode cX6_looks 150 = .ok (.iadd, 1) := by decide +kernel
theorem dX6_looks_151 : decode cX6_looks 151 = .ok (.istore 6, 2) := by decide +kernel
theorem dX6_looks_153 : decode cX6_looks 153 = .ok (.iinc 8 1, 3) := by decide +kernel
theorem dX6_looks_156 : decode cX6_looks 156 = .ok (.goto (-75), 3) := by decide +kernel
theorem dX6_looks_159 : decode cX6_looks 159 = .ok (.aload_n 0, 1) := by decide +kernel
theorem dX6_looks_160 : decode cX6_looks 160 = .ok (.getfield 34, 3) := by decide +kernel
theorem dX6_looks_163 : decode cX6_looks 163 = .ok (.iload 4, 2) := by decide +kernel
theorem dX6_looks_165 : decode cX6_looks 165 = .ok (.iload 7, 2) := by decide +kernel
theorem dX6_looks_167 : decode cX6_looks 167 = .ok (.ifCond .eq 18, 3) := by decide +kernel
theorem dX6_looks_170 : decode cX6_looks 170 = .ok (.iload 6, 2) := by decide +kernel
theorem dX6_looks_172 : decode cX6_looks 172 = .ok (.ifCond .le 13, 3) := by decide +kernel
theorem dX6_looks_175 : decode cX6_looks 175 = .ok (.iload 5, 2) := by decide +kernel
theorem dX6_looks_177 : decode cX6_looks 177 = .ok (.iload 6, 2) := by decide +kernel
theorem dX6_looks_179 : decode cX6_looks 179 = .ok (.invokestatic 94, 3) := by decide +kernel
theorem dX6_looks_182 : decode cX6_looks 182 = .ok (.goto 4, 3) := by decide +kernel
theorem dX6_looks_185 : decode cX6_looks 185 = .ok (.iconst (-1), 1) := by decide +kernel
theorem dX6_looks_186 : decode cX6_looks 186 = .ok (.iastore, 1) := by decide +kernel
theorem dX6_looks_187 : decode cX6_looks 187 = .ok (.aload_n 0, 1) := by decide +kernel
theorem dX6_looks_188 : decode cX6_looks 188 = .ok (.getfield 37, 3) := by decide +kernel
theorem dX6_looks_191 : decode cX6_looks 191 = .ok (.iload 4, 2) := by decide +kernel
theorem dX6_looks_193 : decode cX6_looks 193 = .ok (.aload_n 0, 1) := by decide +kernel
theorem dX6_looks_194 : decode cX6_looks 194 = .ok (.getfield 34, 3) := by decide +kernel
theorem dX6_looks_197 : decode cX6_looks 197 = .ok (.iload 4, 2) := by decide +kernel
theorem dX6_looks_199 : decode cX6_looks 199 = .ok (.iaload, 1) := by decide +kernel
theorem dX6_looks_200 : decode cX6_looks 200 = .ok (.ifCond .lt 7, 3) := by decide +kernel
theorem dX6_looks_203 : decode cX6_looks 203 = .ok (.iconst 1, 1) := by decide +kernel
theorem dX6_looks_204 : decode cX6_looks 204 = .ok (.goto 4, 3) := by decide +kernel
theorem dX6_looks_207 : decode cX6_looks 207 = .ok (.iconst 0, 1) := by decide +kernel
theorem dX6_looks_208 : decode cX6_looks 208 = .ok (.bastore, 1) := by decide +kernel
theorem dX6_looks_209 : decode cX6_looks 209 = .ok (.iinc 4 1, 3) := by decide +kernel
theorem dX6_looks_212 : decode cX6_looks 212 = .ok (.goto (-154), 3) := by decide +kernel
theorem dX6_looks_215 : decode cX6_looks 215 = .ok (.iconst 0, 1) := by decide +kernel
theorem dX6_looks_216 : decode cX6_looks 216 = .ok (.istore 4, 2) := by decide +kernel
theorem dX6_looks_218 : decode cX6_looks 218 = .ok (.iload 4, 2) := by decide +kernel
theorem dX6_looks_220 : decode cX6_looks 220 = .ok (.aload_n 0, 1) := by decide +kernel
theorem dX6_looks_221 : decode cX6_looks 221 = .ok (.getfield 9, 3) := by decide +kernel
theorem dX6_looks_224 : decode cX6_looks 224 = .ok (.bipush 6, 2) := by decide +kernel
theorem dX6_looks_226 : decode cX6_looks 226 = .ok (.iaload, 1) := by decide +kernel
theorem dX6_looks_227 : decode cX6_looks 227 = .ok (.if_icmp .ge 158, 3) := by decide +kernel
theorem dX6_looks_230 : decode cX6_looks 230 = .ok (.aload_n 0, 1) := by decide +kernel
theorem dX6_looks_231 : decode cX6_looks 231 = .ok (.iload 4, 2) := by decide +kernel
theorem dX6_looks_233 : decode cX6_looks 233 = .ok (.iconst 0, 1) := by decide +kernel
theorem dX6_looks_234 : decode cX6_looks 234 = .ok (.invokevirtual 87, 3) := by decide +kernel
theorem dX6_looks_237 : decode cX6_looks 237 = .ok (.istore 5, 2) := by decide +kernel
theorem dX6_looks_239 : decode cX6_looks 239 = .ok (.aload_n 0, 1) := by decide +kernel
theorem dX6_looks_240 : decode cX6_looks 240 = .ok (.getfield 31, 3) := by decide +kernel
theorem dX6_looks_243 : decode cX6_looks 243 = .ok (.iload 4, 2) := by decide +kernel
theorem dX6_looks_245 : decode cX6_looks 245 = .ok (.aload_n 0, 1) := by decide +kernel
theorem dX6_looks_246 : decode cX6_looks 246 = .ok (.getfield 28, 3) := by decide +kernel
theorem dX6_looks_249 : decode cX6_looks 249 = .ok (.iload 4, 2) := by decide +kernel
theorem dX6_looks_251 : decode cX6_looks 251 = .ok (.iaload, 1) := by decide +kernel
theorem dX6_looks_252 : decode cX6_looks 252 = .ok (.ifCond .ge 7, 3) := by decide +kernel
theorem dX6_looks_255 : decode cX6_looks 255 = .ok (.iconst 0, 1) := by decide +kernel
theorem dX6_looks_256 : decode cX6_looks 256 = .ok (.goto 24, 3) := by decide +kernel
theorem dX6_looks_259 : decode cX6_looks 259 = .ok (.aload_n 0, 1) := by decide +kernel
theorem dX6_looks_260 : decode cX6_looks 260 = .ok (.getfield 28, 3) := by decide +kernel
theorem dX6_looks_263 : decode cX6_looks 263 = .ok (.iload 4, 2) := by decide +kernel
theorem dX6_looks_265 : decode cX6_looks 265 = .ok (.iaload, 1) := by decide +kernel
theorem dX6_looks_266 : decode cX6_looks 266 = .ok (.aload_n 0, 1) := by decide +kernel
theorem dX6_looks_267 : decode cX6_looks 267 = .ok (.getfield 9, 3) := by decide +kernel
theorem dX6_looks_270 : decode cX6_looks 270 = .ok (.iconst 0, 1) := by decide +kernel
theorem dX6_looks_271 : decode cX6_looks 271 = .ok (.iaload, 1) := by decide +kernel
theorem dX6_looks_272 : decode cX6_looks 272 = .ok (.if_icmp .lt 7, 3) := by decide +kernel
theorem dX6_looks_275 : decode cX6_looks 275 = .ok (.iconst 1, 1) := by decide +kernel
theorem dX6_looks_276 : decode cX6_looks 276 = .ok (.goto 4, 3) := by decide +kernel
theorem dX6_looks_279 : decode cX6_looks 279 = .ok (.iconst 3, 1) := by decide +kernel
theorem dX6_looks_280 : decode cX6_looks 280 = .ok (.iastore, 1) := by decide +kernel
theorem dX6_looks_281 : decode cX6_looks 281 = .ok (.aload_n 0, 1) := by decide +kernel
theorem dX6_looks_282 : decode cX6_looks 282 = .ok (.getfield 31, 3) := by decide +kernel
theorem dX6_looks_285 : decode cX6_looks 285 = .ok (.iload 4, 2) := by decide +kernel
theorem dX6_looks_287 : decode cX6_looks 287 = .ok (.iaload, 1) := by decide +kernel
theorem dX6_looks_288 : decode cX6_looks 288 = .ok (.iconst 3, 1) := by decide +kernel
theorem dX6_looks_289 : decode cX6_looks 289 = .ok (.if_icmp .eq 6, 3) := by decide +kernel
theorem dX6_looks_292 : decode cX6_looks 292 = .ok (.goto 87, 3) := by decide +kernel
theorem dX6_looks_295 : decode cX6_looks 295 = .ok (.aload_n 0, 1) := by decide +kernel
theorem dX6_looks_296 : decode cX6_looks 296 = .ok (.getfield 28, 3) := by decide +kernel
theorem dX6_looks_299 : decode cX6_looks 299 = .ok (.iload 4, 2) := by decide +kernel
theorem dX6_looks_301 : decode cX6_looks 301 = .ok (.iaload, 1) := by decide +kernel
theorem dX6_looks_302 : decode cX6_looks 302 = .ok (.aload_n 0, 1) := by decide +kernel
theorem dX6_looks_303 : decode cX6_looks 303 = .ok (.getfield 9, 3) := by decide +kernel
theorem dX6_looks_306 : decode cX6_looks 306 = .ok (.iconst 1, 1) := by decide +kernel
theorem dX6_looks_307 : decode cX6_looks 307 = .ok (.iaload, 1) := by decide +kernel
theorem dX6_looks_308 : decode cX6_looks 308 = .ok (.if_icmp .lt 53, 3) := by decide +kernel
theorem dX6_looks_311 : decode cX6_looks 311 = .ok (.aload_n 0, 1) := by decide +kernel
theorem dX6_looks_312 : decode cX6_looks 312 = .ok (.getfield 34, 3) := by decide +kernel
theorem dX6_looks_315 : decode cX6_looks 315 = .ok (.iload 5, 2) := by decide +kernel
theorem dX6_looks_317 : decode cX6_looks 317 = .ok (.iaload, 1) := by decide +kernel
theorem dX6_looks_318 : decode cX6_looks 318 = .ok (.aload_n 0, 1) := by decide +kernel
theorem dX6_looks_319 : decode cX6_looks 319 = .ok (.getfield 9, 3) := by decide +kernel
theorem dX6_looks_322 : decode cX6_looks 322 = .ok (.iconst 0, 1) := by decide +kernel
theorem dX6_looks_323 : decode cX6_looks 323 = .ok (.iaload, 1) := by decide +kernel
theorem dX6_looks_324 : decode cX6_looks 324 = .ok (.if_icmp .lt 37, 3) := by decide +kernel
theorem dX6_looks_327 : decode cX6_looks 327 = .ok (.aload_n 0, 1) := by decide +kernel
theorem dX6_looks_328 : decode cX6_looks 328 = .ok (.getfield 123, 3) := by decide +kernel
theorem dX6_looks_331 : decode cX6_looks 331 = .ok (.aload_n 0, 1) := by decide +kernel
theorem dX6_looks_332 : decode cX6_looks 332 = .ok (.getfield 9, 3) := by decide +kernel
theorem dX6_looks_335 : decode cX6_looks 335 = .ok (.iconst 2, 1) := by decide +kernel
theorem dX6_looks_336 : decode cX6_looks 336 = .ok (.iaload, 1) := by decide +kernel
theorem dX6_looks_337 : decode cX6_looks 337 = .ok (.if_icmp .ge 24, 3) := by decide +kernel
theorem dX6_looks_340 : decode cX6_looks 340 = .ok (.aload_n 0, 1) := by decide +kernel
theorem dX6_looks_341 : decode cX6_looks 341 = .ok (.getfield 31, 3) := by decide +kernel
theorem dX6_looks_344 : decode cX6_looks 344 = .ok (.iload 4, 2) := by decide +kernel
theorem dX6_looks_346 : decode cX6_looks 346 = .ok (.iconst 2, 1) := by decide +kernel
theorem dX6_looks_347 : decode cX6_looks 347 = .ok (.iastore, 1) := by decide +kernel
theorem dX6_looks_348 : decode cX6_looks 348 = .ok (.aload_n 0, 1) := by decide +kernel
theorem dX6_looks_349 : decode cX6_looks 349 = .ok (.dup, 1) := by decide +kernel
theorem dX6_looks_350 : decode cX6_looks 350 = .ok (.getfield 123, 3) := by decide +kernel
theorem dX6_looks_353 : decode cX6_looks 353 = .ok (.iconst 1, 1) := by decide +kernel
theorem dX6_looks_354 : decode cX6_looks 354 = .ok (.iadd, 1) := by decide +kernel
theorem dX6_looks_355 : decode cX6_looks 355 = .ok (.putfield 123, 3) := by decide +kernel
theorem dX6_looks_358 : decode cX6_looks 358 = .ok (.goto 21, 3) := by decide +kernel
theorem dX6_looks_361 : decode cX6_looks 361 = .ok (.aload_n 0, 1) := by decide +kernel
theorem dX6_looks_362 : decode cX6_looks 362 = .ok (.dup, 1) := by decide +kernel
theorem dX6_looks_363 : decode cX6_looks 363 = .ok (.getfield 126, 3) := by decide +kernel
theorem dX6_looks_366 : decode cX6_looks 366 = .ok (.iconst 1, 1) := by decide +kernel
theorem dX6_looks_367 : decode cX6_looks 367 = .ok (.iadd, 1) := by decide +kernel
theorem dX6_looks_368 : decode cX6_looks 368 = .ok (.putfield 126, 3) := by decide +kernel
theorem dX6_looks_371 : decode cX6_looks 371 = .ok (.aload_n 0, 1) := by decide +kernel
theorem dX6_looks_372 : decode cX6_looks 372 = .ok (.getfield 37, 3) := by decide +kernel
theorem dX6_looks_375 : decode cX6_looks 375 = .ok (.iload 5, 2) := by decide +kernel
theorem dX6_looks_377 : decode cX6_looks 377 = .ok (.iconst 0, 1) := by decide +kernel
theorem dX6_looks_378 : decode cX6_looks 378 = .ok (.bastore, 1) := by decide +kernel
theorem dX6_looks_379 : decode cX6_looks 379 = .ok (.iinc 4 1, 3) := by decide +kernel
theorem dX6_looks_382 : decode cX6_looks 382 = .ok (.goto (-164), 3) := by decide +kernel
theorem dX6_looks_385 : decode cX6_looks 385 = .ok (.aload_n 0, 1) := by decide +kernel
theorem dX6_looks_386 : decode cX6_looks 386 = .ok (.invokevirtual 132, 3) := by decide +kernel
theorem dX6_looks_389 : decode cX6_looks 389 = .ok (.return_, 1) := by decide +kernel
theorem dX6_credits_0 : decode cX6_credits 0 = .ok (.aload_n 0, 1) := by decide +kernel
theorem dX6_credits_1 : decode cX6_credits 1 = .ok (.getfield 9, 3) := by decide +kernel
theorem dX6_credits_4 : decode cX6_credits 4 = .ok (.bipush 9, 2) := by decide +kernel
theorem dX6_credits_6 : decode cX6_credits 6 = .ok (.iload_n 1, 1) := by decide +kernel
theorem dX6_credits_7 : decode cX6_credits 7 = .ok (.iadd, 1) := by decide +kernel
theorem dX6_credits_8 : decode cX6_credits 8 = .ok (.iaload, 1) := by decide +kernel
theorem dX6_credits_9 : decode cX6_credits 9 = .ok (.ireturn, 1) := by decide +kernel
theorem dX6_graded_0 : decode cX6_graded 0 = .ok (.aload_n 0, 1) := by decide +kernel
theorem dX6_graded_1 : decode cX6_graded 1 = .ok (.iload_n 1, 1) := by decide +kernel
theorem dX6_graded_2 : decode cX6_graded 2 = .ok (.putfield 134, 3) := by decide +kernel
theorem dX6_graded_5 : decode cX6_graded 5 = .ok (.aload_n 0, 1) := by decide +kernel
theorem dX6_graded_6 : decode cX6_graded 6 = .ok (.iload_n 2, 1) := by decide +kernel
theorem dX6_graded_7 : decode cX6_graded 7 = .ok (.putfield 137, 3) := by decide +kernel
theorem dX6_graded_10 : decode cX6_graded 10 = .ok (.aload_n 0, 1) := by decide +kernel
theorem dX6_graded_11 : decode cX6_graded 11 = .ok (.iload_n 3, 1) := by decide +kernel
theorem dX6_graded_12 : decode cX6_graded 12 = .ok (.putfield 140, 3) := by decide +kernel
theorem dX6_graded_15 : decode cX6_graded 15 = .ok (.return_, 1) := by decide +kernel
theorem dX6_limit_0 : decode cX6_limit 0 = .ok (.iload_n 0, 1) := by decide +kernel
theorem dX6_limit_1 : decode cX6_limit 1 = .ok (.iconst 1, 1) := by decide +kernel
theorem dX6_limit_2 : decode cX6_limit 2 = .ok (.if_icmp .ne 8, 3) := by decide +kernel
theorem dX6_limit_5 : decode cX6_limit 5 = .ok (.bipush 70, 2) := by decide +kernel
theorem dX6_limit_7 : decode cX6_limit 7 = .ok (.goto 24, 3) := by decide +kernel
theorem dX6_limit_10 : decode cX6_limit 10 = .ok (.iload_n 0, 1) := by decide +kernel
theorem dX6_limit_11 : decode cX6_limit 11 = .ok (.iconst 2, 1) := by decide +kernel
theorem dX6_limit_12 : decode cX6_limit 12 = .ok (.if_icmp .ne 8, 3) := by decide +kernel
theorem dX6_limit_15 : decode cX6_limit 15 = .ok (.bipush 60, 2) := by decide +kernel
theorem dX6_limit_17 : decode cX6_limit 17 = .ok (.goto 14, 3) := by decide +kernel
theorem dX6_limit_20 : decode cX6_limit 20 = .ok (.iload_n 0, 1) := by decide +kernel
theorem dX6_limit_21 : decode cX6_limit 21 = .ok (.iconst 3, 1) := by decide +kernel
theorem dX6_limit_22 : decode cX6_limit 22 = .ok (.if_icmp .ne 8, 3) := by decide +kernel
theorem dX6_limit_25 : decode cX6_limit 25 = .ok (.bipush 50, 2) := by decide +kernel
theorem dX6_limit_27 : decode cX6_limit 27 = .ok (.goto 4, 3) := by decide +kernel
theorem dX6_limit_30 : decode cX6_limit 30 = .ok (.iconst 0, 1) := by decide +kernel
theorem dX6_limit_31 : decode cX6_limit 31 = .ok (.ireturn, 1) := by decide +kernel
theorem dX6_grades_0 : decode cX6_grades 0 = .ok (.iconst 0, 1) := by decide +kernel
theorem dX6_grades_1 : decode cX6_grades 1 = .ok (.istore_n 1, 1) := by decide +kernel
theorem dX6_grades_2 : decode cX6_grades 2 = .ok (.iconst 0, 1) := by decide +kernel
theorem dX6_grades_3 : decode cX6_grades 3 = .ok (.istore_n 2, 1) := by decide +kernel
theorem dX6_grades_4 : decode cX6_grades 4 = .ok (.iconst (-1), 1) := by decide +kernel
theorem dX6_grades_5 : decode cX6_grades 5 = .ok (.istore_n 3, 1) := by decide +kernel
theorem dX6_grades_6 : decode cX6_grades 6 = .ok (.iconst (-1), 1) := by decide +kernel
theorem dX6_grades_7 : decode cX6_grades 7 = .ok (.istore 4, 2) := by decide +kernel
theorem dX6_grades_9 : decode cX6_grades 9 = .ok (.iconst 0, 1) := by decide +kernel
theorem dX6_grades_10 : decode cX6_grades 10 = .ok (.istore 5, 2) := by decide +kernel
theorem dX6_grades_12 : decode cX6_grades 12 = .ok (.iload 5, 2) := by decide +kernel
theorem dX6_grades_14 : decode cX6_grades 14 = .ok (.aload_n 0, 1) := by decide +kernel
theorem dX6_grades_15 : decode cX6_grades 15 = .ok (.getfield 9, 3) := by decide +kernel
theorem dX6_grades_18 : decode cX6_grades 18 = .ok (.iconst 5, 1) := by decide +kernel
theorem dX6_grades_19 : decode cX6_grades 19 = .ok (.iaload, 1) := by decide +kernel
theorem dX6_grades_20 : decode cX6_grades 20 = .ok (.if_icmp .ge 64, 3) := by decide +kernel
theorem dX6_grades_23 : decode cX6_grades 23 = .ok (.aload_n 0, 1) := by decide +kernel
theorem dX6_grades_24 : decode cX6_grades 24 = .ok (.iload 5, 2) := by decide +kernel
theorem dX6_grades_26 : decode cX6_grades 26 = .ok (.invokevirtual 143, 3) := by decide +kernel
theorem dX6_grades_29 : decode cX6_grades 29 = .ok (.ifCond .ne 6, 3) := by decide +kernel
theorem dX6_grades_32 : decode cX6_grades 32 = .ok (.goto 46, 3) := by decide +kernel
theorem dX6_grades_35 : decode cX6_grades 35 = .ok (.iload_n 1, 1) := by decide +kernel
theorem dX6_grades_36 : decode cX6_grades 36 = .ok (.aload_n 0, 1) := by decide +kernel
theorem dX6_grades_37 : decode cX6_grades 37 = .ok (.iload 5, 2) := by decide +kernel
theorem dX6_grades_39 : decode cX6_grades 39 = .ok (.invokevirtual 146, 3) := by decide +kernel
theorem dX6_grades_42 : decode cX6_grades 42 = .ok (.iadd, 1) := by decide +kernel
theorem dX6_grades_43 : decode cX6_grades 43 = .ok (.istore_n 1, 1) := by decide +kernel
theorem dX6_grades_44 : decode cX6_grades 44 = .ok (.iload_n 2, 1) := by decide +kernel
theorem dX6_grades_45 : decode cX6_grades 45 = .ok (.aload_n 0, 1) := by decide +kernel
theorem dX6_grades_46 : decode cX6_grades 46 = .ok (.iload 5, 2) := by decide +kernel
theorem dX6_grades_48 : decode cX6_grades 48 = .ok (.invokevirtual 146, 3) := by decide +kernel
theorem dX6_grades_51 : decode cX6_grades 51 = .ok (.aload_n 0, 1) := by decide +kernel
theorem dX6_grades_52 : decode cX6_grades 52 = .ok (.getfield 34, 3) := by decide +kernel
theorem dX6_grades_55 : decode cX6_grades 55 = .ok (.iload 5, 2) := by decide +kernel
theorem dX6_grades_57 : decode cX6_grades 57 = .ok (.iaload, 1) := by decide +kernel
theorem dX6_grades_58 : decode cX6_grades 58 = .ok (.imul, 1) := by decide +kernel
theorem dX6_grades_59 : decode cX6_grades 59 = .ok (.iadd, 1) := by decide +kernel
theorem dX6_grades_60 : decode cX6_grades 60 = .ok (.istore_n 2, 1) := by decide +kernel
theorem dX6_grades_61 : decode cX6_grades 61 = .ok (.aload_n 0, 1) := by decide +kernel
theorem dX6_grades_62 : decode cX6_grades 62 = .ok (.getfield 34, 3) := by decide +kernel
theorem dX6_grades_65 : decode cX6_grades 65 = .ok (.iload 5, 2) := by decide +kernel
theorem dX6_grades_67 : decode cX6_grades 67 = .ok (.iaload, 1) := by decide +kernel
theorem dX6_grades_68 : decode cX6_grades 68 = .ok (.ifCond .ge 10, 3) := by decide +kernel
theorem dX6_grades_71 : decode cX6_grades 71 = .ok (.iload_n 3, 1) := by decide +kernel
theorem dX6_grades_72 : decode cX6_grades 72 = .ok (.ifCond .ge 6, 3) := by decide +kernel
theorem dX6_grades_75 : decode cX6_grades 75 = .ok (.iload 5, 2) := by decide +kernel
theorem dX6_grades_77 : decode cX6_grades 77 = .ok (.istore_n 3, 1) := by decide +kernel
theorem dX6_grades_78 : decode cX6_grades 78 = .ok (.iinc 5 1, 3) := by decide +kernel
theorem dX6_grades_81 : decode cX6_grades 81 = .ok (.goto (-69), 3) := by decide +kernel
theorem dX6_grades_84 : decode cX6_grades 84 = .ok (.aload_n 0, 1) := by decide +kernel
theorem dX6_grades_85 : decode cX6_grades 85 = .ok (.getfield 9, 3) := by decide +kernel
theorem dX6_grades_88 : decode cX6_grades 88 = .ok (.bipush 6, 2) := by decide +kernel
theorem dX6_grades_90 : decode cX6_grades 90 = .ok (.iaload, 1) := by decide +kernel
theorem dX6_grades_91 : decode cX6_grades 91 = .ok (.iconst 1, 1) := by decide +kernel
theorem dX6_grades_92 : decode cX6_grades 92 = .ok (.isub, 1) := by decide +kernel
theorem dX6_grades_93 : decode cX6_grades 93 = .ok (.istore 5, 2) := by decide +kernel
theorem dX6_grades_95 : decode cX6_grades 95 = .ok (.iload 5, 2) := by decide +kernel
theorem dX6_grades_97 : decode cX6_grades 97 = .ok (.ifCond .lt 24, 3) := by decide +kernel
theorem dX6_grades_100 : decode cX6_grades 100 = .ok (.aload_n 0, 1) := by decide +kernel
theorem dX6_grades_101 : decode cX6_grades 101 = .ok (.getfield 31, 3) := by decide +kernel
theorem dX6_grades_104 : decode cX6_grades 104 = .ok (.iload 5, 2) := by decide +kernel
theorem dX6_grades_106 : decode cX6_grades 106 = .ok (.iaload, 1) := by decide +kernel
theorem dX6_grades_107 : decode cX6_grades 107 = .ok (.iconst 3, 1) := by decide +kernel
theorem dX6_grades_108 : decode cX6_grades 108 = .ok (.if_icmp .ne 7, 3) := by decide +kernel
theorem dX6_grades_111 : decode cX6_grades 111 = .ok (.iload 5, 2) := by decide +kernel
theorem dX6_grades_113 : decode cX6_grades 113 = .ok (.istore 4, 2) := by decide +kernel
theorem dX6_grades_115 : decode cX6_grades 115 = .ok (.iinc 5 (-1), 3) := by decide +kernel
theorem dX6_grades_118 : decode cX6_grades 118 = .ok (.goto (-23), 3) := by decide +kernel
theorem dX6_grades_121 : decode cX6_grades 121 = .ok (.aload_n 0, 1) := by decide +kernel
theorem dX6_grades_122 : decode cX6_grades 122 = .ok (.iconst (-1), 1) := by decide +kernel
theorem dX6_grades_123 : decode cX6_grades 123 = .ok (.putfield 150, 3) := by decide +kernel
theorem dX6_grades_126 : decode cX6_grades 126 = .ok (.iload_n 1, 1) := by decide +kernel
theorem dX6_grades_127 : decode cX6_grades 127 = .ok (.ifCond .eq 7, 3) := by decide +kernel
theorem dX6_grades_130 : decode cX6_grades 130 = .ok (.iload_n 3, 1) := by decide +kernel
theorem dX6_grades_131 : decode cX6_grades 131 = .ok (.ifCond .lt 20, 3) := by decide +kernel
theorem dX6_grades_134 : decode cX6_grades 134 = .ok (.aload_n 0, 1) := by decide +kernel
theorem dX6_grades_135 : decode cX6_grades 135 = .ok (.iconst 0, 1) := by decide +kernel
theorem dX6_grades_136 : decode cX6_grades 136 = .ok (.iconst 1, 1) := by decide +kernel
theorem dX6_grades_137 : decode cX6_grades 137 = .ok (.iload_n 3, 1) := by decide +kernel
theorem dX6_grades_138 : decode cX6_grades 138 = .ok (.ifCond .ge 8, 3) := by decide +kernel
theorem dX6_grades_141 : decode cX6_grades 141 = .ok (.bipush (-5), 2) := by decide +kernel
theorem dX6_grades_143 : decode cX6_grades 143 = .ok (.goto 4, 3) := by decide +kernel
theorem dX6_grades_146 : decode cX6_grades 146 = .ok (.iload_n 3, 1) := by decide +kernel
theorem dX6_grades_147 : decode cX6_grades 147 = .ok (.invokevirtual 153, 3) := by decide +kernel
theorem dX6_grades_150 : decode cX6_grades 150 = .ok (.return_, 1) := by decide +kernel
theorem dX6_grades_151 : decode cX6_grades 151 = .ok (.aload_n 0, 1) := by decide +kernel
theorem dX6_grades_152 : decode cX6_grades 152 = .ok (.bipush 100, 2) := by decide +kernel
theorem dX6_grades_154 : decode cX6_grades 154 = .ok (.iload_n 2, 1) := by decide +kernel
theorem dX6_grades_155 : decode cX6_grades 155 = .ok (.imul, 1) := by decide +kernel
theorem dX6_grades_156 : decode cX6_grades 156 = .ok (.iload_n 1, 1) := by decide +kernel
theorem dX6_grades_157 : decode cX6_grades 157 = .ok (.idiv, 1) := by decide +kernel
theorem dX6_grades_158 : decode cX6_grades 158 = .ok (.putfield 150, 3) := by decide +kernel
theorem dX6_grades_161 : decode cX6_grades 161 = .ok (.iload 4, 2) := by decide +kernel
theorem dX6_grades_163 : decode cX6_grades 163 = .ok (.ifCond .lt 12, 3) := by decide +kernel
theorem dX6_grades_166 : decode cX6_grades 166 = .ok (.aload_n 0, 1) := by decide +kernel
theorem dX6_grades_167 : decode cX6_grades 167 = .ok (.iconst 5, 1) := by decide +kernel
theorem dX6_grades_168 : decode cX6_grades 168 = .ok (.iconst 2, 1) := by decide +kernel
theorem dX6_grades_169 : decode cX6_grades 169 = .ok (.iload 4, 2) := by decide +kernel
theorem dX6_grades_171 : decode cX6_grades 171 = .ok (.invokevirtual 153, 3) := by decide +kernel
theorem dX6_grades_174 : decode cX6_grades 174 = .ok (.return_, 1) := by decide +kernel
theorem dX6_grades_175 : decode cX6_grades 175 = .ok (.aload_n 0, 1) := by decide +kernel
theorem dX6_grades_176 : decode cX6_grades 176 = .ok (.getfield 150, 3) := by decide +kernel
theorem dX6_grades_179 : decode cX6_grades 179 = .ok (.sipush 7000, 3) := by decide +kernel
theorem dX6_grades_182 : decode cX6_grades 182 = .ok (.if_icmp .lt 7, 3) := by decide +kernel
theorem dX6_grades_185 : decode cX6_grades 185 = .ok (.iconst 1, 1) := by decide +kernel
theorem dX6_grades_186 : decode cX6_grades 186 = .ok (.goto 32, 3) := by decide +kernel
theorem dX6_grades_189 : decode cX6_grades 189 = .ok (.aload_n 0, 1) := by decide +kernel
theorem dX6_grades_190 : decode cX6_grades 190 = .ok (.getfield 150, 3) := by decide +kernel
theorem dX6_grades_193 : decode cX6_grades 193 = .ok (.sipush 6000, 3) := by decide +kernel
theorem dX6_grades_196 : decode cX6_grades 196 = .ok (.if_icmp .lt 7, 3) := by decide +kernel
theorem dX6_grades_199 : decode cX6_grades 199 = .ok (.iconst 2, 1) := by decide +kernel
theorem dX6_grades_200 : decode cX6_grades 200 = .ok (.goto 18, 3) := by decide +kernel
theorem dX6_grades_203 : decode cX6_grades 203 = .ok (.aload_n 0, 1) := by decide +kernel
theorem dX6_grades_204 : decode cX6_grades 204 = .ok (.getfield 150, 3) := by decide +kernel
theorem dX6_grades_207 : decode cX6_grades 207 = .ok (.sipush 5000, 3) := by decide +kernel
theorem dX6_grades_210 : decode cX6_grades 210 = .ok (.if_icmp .lt 7, 3) := by decide +kernel
theorem dX6_grades_213 : decode cX6_grades 213 = .ok (.iconst 3, 1) := by decide +kernel
theorem dX6_grades_214 : decode cX6_grades 214 = .ok (.goto 4, 3) := by decide +kernel
theorem dX6_grades_217 : decode cX6_grades 217 = .ok (.iconst 4, 1) := by decide +kernel
theorem dX6_grades_218 : decode cX6_grades 218 = .ok (.istore 5, 2) := by decide +kernel
theorem dX6_grades_220 : decode cX6_grades 220 = .ok (.iload 5, 2) := by decide +kernel
theorem dX6_grades_222 : decode cX6_grades 222 = .ok (.iconst 1, 1) := by decide +kernel
theorem dX6_grades_223 : decode cX6_grades 223 = .ok (.if_icmp .le 117, 3) := by decide +kernel
theorem dX6_grades_226 : decode cX6_grades 226 = .ok (.iload 5, 2) := by decide +kernel
theorem dX6_grades_228 : decode cX6_grades 228 = .ok (.iconst 1, 1) := by decide +kernel
theorem dX6_grades_229 : decode cX6_grades 229 = .ok (.isub, 1) := by decide +kernel
theorem dX6_grades_230 : decode cX6_grades 230 = .ok (.invokestatic 156, 3) := by decide +kernel
theorem dX6_grades_233 : decode cX6_grades 233 = .ok (.istore 6, 2) := by decide +kernel
theorem dX6_grades_235 : decode cX6_grades 235 = .ok (.iconst 0, 1) := by decide +kernel
theorem dX6_grades_236 : decode cX6_grades 236 = .ok (.istore 7, 2) := by decide +kernel
theorem dX6_grades_238 : decode cX6_grades 238 = .ok (.iconst 0, 1) := by decide +kernel
theorem dX6_grades_239 : decode cX6_grades 239 = .ok (.istore 8, 2) := by decide +kernel
theorem dX6_grades_241 : decode cX6_grades 241 = .ok (.iload 8, 2) := by decide +kernel
theorem dX6_grades_243 : decode cX6_grades 243 = .ok (.aload_n 0, 1) := by decide +kernel
theorem dX6_grades_244 : decode cX6_grades 244 = .ok (.getfield 9, 3) := by decide +kernel
theorem dX6_grades_247 : decode cX6_grades 247 = .ok (.iconst 5, 1) := by decide +kernel
theorem dX6_grades_248 : decode cX6_grades 248 = .ok (.iaload, 1) := by decide +kernel
theorem dX6_grades_249 : decode cX6_grades 249 = .ok (.if_icmp .ge 41, 3) := by decide +kernel
theorem dX6_grades_252 : decode cX6_grades 252 = .ok (.aload_n 0, 1) := by decide +kernel
theorem dX6_grades_253 : decode cX6_grades 253 = .ok (.iload 8, 2) := by decide +kernel
theorem dX6_grades_255 : decode cX6_grades 255 = .ok (.invokevirtual 143, 3) := by decide +kernel
theorem dX6_grades_258 : decode cX6_grades 258 = .ok (.ifCond .eq 26, 3) := by decide +kernel
theorem dX6_grades_261 : decode cX6_grades 261 = .ok (.aload_n 0, 1) := by decide +kernel
theorem dX6_grades_262 : decode cX6_grades 262 = .ok (.getfield 34, 3) := by decide +kernel
theorem dX6_grades_265 : decode cX6_grades 265 = .ok (.iload 8, 2) := by decide +kernel
theorem dX6_grades_267 : decode cX6_grades 267 = .ok (.iaload, 1) := by decide +kernel
theorem dX6_grades_268 : decode cX6_grades 268 = .ok (.iload 6, 2) := by decide +kernel
theorem dX6_grades_270 : decode cX6_grades 270 = .ok (.if_icmp .lt 14, 3) := by decide +kernel
theorem dX6_grades_273 : decode cX6_grades 273 = .ok (.iload 7, 2) := by decide +kernel
theorem dX6_grades_275 : decode cX6_grades 275 = .ok (.aload_n 0, 1) := by decide +kernel
theorem dX6_grades_276 : decode cX6_grades 276 = .ok (.iload 8, 2) := by decide +kernel
theorem dX6_grades_278 : decode cX6_grades 278 = .ok (.invokevirtual 146, 3) := by decide +kernel
theorem dX6_grades_281 : decode cX6_grades 281 = .ok (.iadd, 1) := by decide +kernel
theorem dX6_grades_282 : decode cX6_grades 282 = .ok (.istore 7, 2) := by decide +kernel
theorem dX6_grades_284 : decode cX6_grades 284 = .ok (.iinc 8 1, 3) := by decide +kernel
theorem dX6_grades_287 : decode cX6_grades 287 = .ok (.goto (-46), 3) := by decide +kernel
theorem dX6_grades_290 : decode cX6_grades 290 = .ok (.bipush 100, 2) := by decide +kernel
theorem dX6_grades_292 : decode cX6_grades 292 = .ok (.iload 6, 2) := by decide +kernel
theorem dX6_grades_294 : decode cX6_grades 294 = .ok (.imul, 1) := by decide +kernel
theorem dX6_grades_295 : decode cX6_grades 295 = .ok (.aload_n 0, 1) := by decide +kernel
theorem dX6_grades_296 : decode cX6_grades 296 = .ok (.getfield 150, 3) := by decide +kernel
theorem dX6_grades_299 : decode cX6_grades 299 = .ok (.isub, 1) := by decide +kernel
theorem dX6_grades_300 : decode cX6_grades 300 = .ok (.bipush 100, 2) := by decide +kernel
theorem dX6_grades_302 : decode cX6_grades 302 = .ok (.aload_n 0, 1) := by decide +kernel
theorem dX6_grades_303 : decode cX6_grades 303 = .ok (.getfield 9, 3) := by decide +kernel
theorem dX6_grades_306 : decode cX6_grades 306 = .ok (.iconst 3, 1) := by decide +kernel
theorem dX6_grades_307 : decode cX6_grades 307 = .ok (.iaload, 1) := by decide +kernel
theorem dX6_grades_308 : decode cX6_grades 308 = .ok (.imul, 1) := by decide +kernel
theorem dX6_grades_309 : decode cX6_grades 309 = .ok (.if_icmp .gt 31, 3) := by decide +kernel
theorem dX6_grades_312 : decode cX6_grades 312 = .ok (.iconst 2, 1) := by decide +kernel
theorem dX6_grades_313 : decode cX6_grades 313 = .ok (.iload 7, 2) := by decide +kernel
theorem dX6_grades_315 : decode cX6_grades 315 = .ok (.imul, 1) := by decide +kernel
theorem dX6_grades_316 : decode cX6_grades 316 = .ok (.iload_n 1, 1) := by decide +kernel
theorem dX6_grades_317 : decode cX6_grades 317 = .ok (.if_icmp .lt 23, 3) := by decide +kernel
theorem dX6_grades_320 : decode cX6_grades 320 = .ok (.aload_n 0, 1) := by decide +kernel
theorem dX6_grades_321 : decode cX6_grades 321 = .ok (.iload 5, 2) := by decide +kernel
theorem dX6_grades_323 : decode cX6_grades 323 = .ok (.iconst 1, 1) := by decide +kernel
theorem dX6_grades_324 : decode cX6_grades 324 = .ok (.isub, 1) := by decide +kernel
theorem dX6_grades_325 : decode cX6_grades 325 = .ok (.iconst 3, 1) := by decide +kernel
theorem dX6_grades_326 : decode cX6_grades 326 = .ok (.aload_n 0, 1) := by decide +kernel
theorem dX6_grades_327 : decode cX6_grades 327 = .ok (.getfield 150, 3) := by decide +kernel
theorem dX6_grades_330 : decode cX6_grades 330 = .ok (.bipush 100, 2) := by decide +kernel
theorem dX6_grades_332 : decode cX6_grades 332 = .ok (.iload 6, 2) := by decide +kernel
theorem dX6_grades_334 : decode cX6_grades 334 = .ok (.imul, 1) := by decide +kernel
theorem dX6_grades_335 : decode cX6_grades 335 = .ok (.isub, 1) := by decide +kernel
theorem dX6_grades_336 : decode cX6_grades 336 = .ok (.invokevirtual 153, 3) := by decide +kernel
theorem dX6_grades_339 : decode cX6_grades 339 = .ok (.return_, 1) := by decide +kernel
theorem dX6_grades_340 : decode cX6_grades 340 = .ok (.aload_n 0, 1) := by decide +kernel
theorem dX6_grades_341 : decode cX6_grades 341 = .ok (.iload 5, 2) := by decide +kernel
theorem dX6_grades_343 : decode cX6_grades 343 = .ok (.iconst 4, 1) := by decide +kernel
theorem dX6_grades_344 : decode cX6_grades 344 = .ok (.aload_n 0, 1) := by decide +kernel
theorem dX6_grades_345 : decode cX6_grades 345 = .ok (.getfield 150, 3) := by decide +kernel
theorem dX6_grades_348 : decode cX6_grades 348 = .ok (.bipush 100, 2) := by decide +kernel
theorem dX6_grades_350 : decode cX6_grades 350 = .ok (.iload 5, 2) := by decide +kernel
theorem dX6_grades_352 : decode cX6_grades 352 = .ok (.invokestatic 156, 3) := by decide +kernel
theorem dX6_grades_355 : decode cX6_grades 355 = .ok (.imul, 1) := by decide +kernel
theorem dX6_grades_356 : decode cX6_grades 356 = .ok (.isub, 1) := by decide +kernel
theorem dX6_grades_357 : decode cX6_grades 357 = .ok (.invokevirtual 153, 3) := by decide +kernel
theorem dX6_grades_360 : decode cX6_grades 360 = .ok (.return_, 1) := by decide +kernel
theorem dX6_ranks_0 : decode cX6_ranks 0 = .ok (.iconst 0, 1) := by decide +kernel
theorem dX6_ranks_1 : decode cX6_ranks 1 = .ok (.istore_n 1, 1) := by decide +kernel
theorem dX6_ranks_2 : decode cX6_ranks 2 = .ok (.iload_n 1, 1) := by decide +kernel
theorem dX6_ranks_3 : decode cX6_ranks 3 = .ok (.aload_n 0, 1) := by decide +kernel
theorem dX6_ranks_4 : decode cX6_ranks 4 = .ok (.getfield 9, 3) := by decide +kernel
theorem dX6_ranks_7 : decode cX6_ranks 7 = .ok (.bipush 7, 2) := by decide +kernel
theorem dX6_ranks_9 : decode cX6_ranks 9 = .ok (.iaload, 1) := by decide +kernel
theorem dX6_ranks_10 : decode cX6_ranks 10 = .ok (.if_icmp .ge 101, 3) := by decide +kernel
theorem dX6_ranks_13 : decode cX6_ranks 13 = .ok (.aload_n 0, 1) := by decide +kernel
theorem dX6_ranks_14 : decode cX6_ranks 14 = .ok (.iload_n 1, 1) := by decide +kernel
theorem dX6_ranks_15 : decode cX6_ranks 15 = .ok (.iconst (-1), 1) := by decide +kernel
theorem dX6_ranks_16 : decode cX6_ranks 16 = .ok (.iconst 0, 1) := by decide +kernel
theorem dX6_ranks_17 : decode cX6_ranks 17 = .ok (.invokevirtual 90, 3) := by decide +kernel
theorem dX6_ranks_20 : decode cX6_ranks 20 = .ok (.aload_n 0, 1) := by decide +kernel
theorem dX6_ranks_21 : decode cX6_ranks 21 = .ok (.getfield 44, 3) := by decide +kernel
theorem dX6_ranks_24 : decode cX6_ranks 24 = .ok (.iload_n 1, 1) := by decide +kernel
theorem dX6_ranks_25 : decode cX6_ranks 25 = .ok (.aload_n 0, 1) := by decide +kernel
theorem dX6_ranks_26 : decode cX6_ranks 26 = .ok (.getfield 134, 3) := by decide +kernel
theorem dX6_ranks_29 : decode cX6_ranks 29 = .ok (.ifCond .ne 8, 3) := by decide +kernel
theorem dX6_ranks_32 : decode cX6_ranks 32 = .ok (.bipush 6, 2) := by decide +kernel
theorem dX6_ranks_34 : decode cX6_ranks 34 = .ok (.goto 7, 3) := by decide +kernel
theorem dX6_ranks_37 : decode cX6_ranks 37 = .ok (.aload_n 0, 1) := by decide +kernel
theorem dX6_ranks_38 : decode cX6_ranks 38 = .ok (.getfield 134, 3) := by decide +kernel
theorem dX6_ranks_41 : decode cX6_ranks 41 = .ok (.iastore, 1) := by decide +kernel
theorem dX6_ranks_42 : decode cX6_ranks 42 = .ok (.aload_n 0, 1) := by decide +kernel
theorem dX6_ranks_43 : decode cX6_ranks 43 = .ok (.getfield 47, 3) := by decide +kernel
theorem dX6_ranks_46 : decode cX6_ranks 46 = .ok (.iload_n 1, 1) := by decide +kernel
theorem dX6_ranks_47 : decode cX6_ranks 47 = .ok (.iconst 0, 1) := by decide +kernel
theorem dX6_ranks_48 : decode cX6_ranks 48 = .ok (.aload_n 0, 1) := by decide +kernel
theorem dX6_ranks_49 : decode cX6_ranks 49 = .ok (.getfield 150, 3) := by decide +kernel
theorem dX6_ranks_52 : decode cX6_ranks 52 = .ok (.invokestatic 110, 3) := by decide +kernel
theorem dX6_ranks_55 : decode cX6_ranks 55 = .ok (.iastore, 1) := by decide +kernel
theorem dX6_ranks_56 : decode cX6_ranks 56 = .ok (.iload_n 1, 1) := by decide +kernel
theorem dX6_ranks_57 : decode cX6_ranks 57 = .ok (.istore_n 2, 1) := by decide +kernel
theorem dX6_ranks_58 : decode cX6_ranks 58 = .ok (.iload_n 2, 1) := by decide +kernel
theorem dX6_ranks_59 : decode cX6_ranks 59 = .ok (.ifCond .le 39, 3) := by decide +kernel
theorem dX6_ranks_62 : decode cX6_ranks 62 = .ok (.aload_n 0, 1) := by decide +kernel
theorem dX6_ranks_63 : decode cX6_ranks 63 = .ok (.iload_n 1, 1) := by decide +kernel
theorem dX6_ranks_64 : decode cX6_ranks 64 = .ok (.aload_n 0, 1) := by decide +kernel
theorem dX6_ranks_65 : decode cX6_ranks 65 = .ok (.getfield 41, 3) := by decide +kernel
theorem dX6_ranks_68 : decode cX6_ranks 68 = .ok (.iload_n 2, 1) := by decide +kernel
theorem dX6_ranks_69 : decode cX6_ranks 69 = .ok (.iconst 1, 1) := by decide +kernel
theorem dX6_ranks_70 : decode cX6_ranks 70 = .ok (.isub, 1) := by decide +kernel
theorem dX6_ranks_71 : decode cX6_ranks 71 = .ok (.iaload, 1) := by decide +kernel
theorem dX6_ranks_72 : decode cX6_ranks 72 = .ok (.invokevirtual 159, 3) := by decide +kernel
theorem dX6_ranks_75 : decode cX6_ranks 75 = .ok (.ifCond .eq 23, 3) := by decide +kernel
theorem dX6_ranks_78 : decode cX6_ranks 78 = .ok (.aload_n 0, 1) := by decide +kernel
theorem dX6_ranks_79 : decode cX6_ranks 79 = .ok (.getfield 41, 3) := by decide +kernel
theorem dX6_ranks_82 : decode cX6_ranks 82 = .ok (.iload_n 2, 1) := by decide +kernel
theorem dX6_ranks_83 : decode cX6_ranks 83 = .ok (.aload_n 0, 1) := by decide +kernel
theorem dX6_ranks_84 : decode cX6_ranks 84 = .ok (.getfield 41, 3) := by decide +kernel
theorem dX6_ranks_87 : decode cX6_ranks 87 = .ok (.iload_n 2, 1) := by decide +kernel
theorem dX6_ranks_88 : decode cX6_ranks 88 = .ok (.iconst 1, 1) := by decide +kernel
theorem dX6_ranks_89 : decode cX6_ranks 89 = .ok (.isub, 1) := by decide +kernel
theorem dX6_ranks_90 : decode cX6_ranks 90 = .ok (.iaload, 1) := by decide +kernel
theorem dX6_ranks_91 : decode cX6_ranks 91 = .ok (.iastore, 1) := by decide +kernel
theorem dX6_ranks_92 : decode cX6_ranks 92 = .ok (.iinc 2 (-1), 3) := by decide +kernel
theorem dX6_ranks_95 : decode cX6_ranks 95 = .ok (.goto (-37), 3) := by decide +kernel
theorem dX6_ranks_98 : decode cX6_ranks 98 = .ok (.aload_n 0, 1) := by decide +kernel
theorem dX6_ranks_99 : decode cX6_ranks 99 = .ok (.getfield 41, 3) := by decide +kernel
theorem dX6_ranks_102 : decode cX6_ranks 102 = .ok (.iload_n 2, 1) := by decide +kernel
theorem dX6_ranks_103 : decode cX6_ranks 103 = .ok (.iload_n 1, 1) := by decide +kernel
theorem dX6_ranks_104 : decode cX6_ranks 104 = .ok (.iastore, 1) := by decide +kernel
theorem dX6_ranks_105 : decode cX6_ranks 105 = .ok (.iinc 1 1, 3) := by decide +kernel
theorem dX6_ranks_108 : decode cX6_ranks 108 = .ok (.goto (-106), 3) := by decide +kernel
theorem dX6_ranks_111 : decode cX6_ranks 111 = .ok (.return_, 1) := by decide +kernel
theorem dX6_isAhead_0 : decode cX6_isAhead 0 = .ok (.aload_n 0, 1) := by decide +kernel
theorem dX6_isAhead_1 : decode cX6_isAhead 1 = .ok (.getfield 44, 3) := by decide +kernel
theorem dX6_isAhead_4 : decode cX6_isAhead 4 = .ok (.iload_n 1, 1) := by decide +kernel
theorem dX6_isAhead_5 : decode cX6_isAhead 5 = .ok (.iaload, 1) := by decide +kernel
theorem dX6_isAhead_6 : decode cX6_isAhead 6 = .ok (.aload_n 0, 1) := by decide +kernel
theorem dX6_isAhead_7 : decode cX6_isAhead 7 = .ok (.getfield 44, 3) := by decide +kernel
theorem dX6_isAhead_10 : decode cX6_isAhead 10 = .ok (.iload_n 2, 1) := by decide +kernel
theorem dX6_isAhead_11 : decode cX6_isAhead 11 = .ok (.iaload, 1) := by decide +kernel
theorem dX6_isAhead_12 : decode cX6_isAhead 12 = .ok (.if_icmp .eq 26, 3) := by decide +kernel
theorem dX6_isAhead_15 : decode cX6_isAhead 15 = .ok (.aload_n 0, 1) := by decide +kernel
theorem dX6_isAhead_16 : decode cX6_isAhead 16 = .ok (.getfield 44, 3) := by decide +kernel
theorem dX6_isAhead_19 : decode cX6_isAhead 19 = .ok (.iload_n 1, 1) := by decide +kernel
theorem dX6_isAhead_20 : decode cX6_isAhead 20 = .ok (.iaload, 1) := by decide +kernel
theorem dX6_isAhead_21 : decode cX6_isAhead 21 = .ok (.aload_n 0, 1) := by decide +kernel
theorem dX6_isAhead_22 : decode cX6_isAhead 22 = .ok (.getfield 44, 3) := by decide +kernel
theorem dX6_isAhead_25 : decode cX6_isAhead 25 = .ok (.iload_n 2, 1) := by decide +kernel
theorem dX6_isAhead_26 : decode cX6_isAhead 26 = .ok (.iaload, 1) := by decide +kernel
theorem dX6_isAhead_27 : decode cX6_isAhead 27 = .ok (.if_icmp .ge 7, 3) := by decide +kernel
theorem dX6_isAhead_30 : decode cX6_isAhead 30 = .ok (.iconst 1, 1) := by decide +kernel
theorem dX6_isAhead_31 : decode cX6_isAhead 31 = .ok (.goto 27, 3) := by decide +kernel
theorem dX6_isAhead_34 : decode cX6_isAhead 34 = .ok (.iconst 0, 1) := by decide +kernel
theorem dX6_isAhead_35 : decode cX6_isAhead 35 = .ok (.goto 23, 3) := by decide +kernel
theorem dX6_isAhead_38 : decode cX6_isAhead 38 = .ok (.aload_n 0, 1) := by decide +kernel
theorem dX6_isAhead_39 : decode cX6_isAhead 39 = .ok (.getfield 47, 3) := by decide +kernel
theorem dX6_isAhead_42 : decode cX6_isAhead 42 = .ok (.iload_n 1, 1) := by decide +kernel
theorem dX6_isAhead_43 : decode cX6_isAhead 43 = .ok (.iaload, 1) := by decide +kernel
theorem dX6_isAhead_44 : decode cX6_isAhead 44 = .ok (.aload_n 0, 1) := by decide +kernel
theorem dX6_isAhead_45 : decode cX6_isAhead 45 = .ok (.getfield 47, 3) := by decide +kernel
theorem dX6_isAhead_48 : decode cX6_isAhead 48 = .ok (.iload_n 2, 1) := by decide +kernel
theorem dX6_isAhead_49 : decode cX6_isAhead 49 = .ok (.iaload, 1) := by decide +kernel
theorem dX6_isAhead_50 : decode cX6_isAhead 50 = .ok (.if_icmp .le 7, 3) := by decide +kernel
theorem dX6_isAhead_53 : decode cX6_isAhead 53 = .ok (.iconst 1, 1) := by decide +kernel
theorem dX6_isAhead_54 : decode cX6_isAhead 54 = .ok (.goto 4, 3) := by decide +kernel
theorem dX6_isAhead_57 : decode cX6_isAhead 57 = .ok (.iconst 0, 1) := by decide +kernel
theorem dX6_isAhead_58 : decode cX6_isAhead 58 = .ok (.ireturn, 1) := by decide +kernel
theorem dX6_refuses_0 : decode cX6_refuses 0 = .ok (.aload_n 0, 1) := by decide +kernel
theorem dX6_refuses_1 : decode cX6_refuses 1 = .ok (.iload_n 1, 1) := by decide +kernel
theorem dX6_refuses_2 : decode cX6_refuses 2 = .ok (.putfield 162, 3) := by decide +kernel
theorem dX6_refuses_5 : decode cX6_refuses 5 = .ok (.aload_n 0, 1) := by decide +kernel
theorem dX6_refuses_6 : decode cX6_refuses 6 = .ok (.iload_n 2, 1) := by decide +kernel
theorem dX6_refuses_7 : decode cX6_refuses 7 = .ok (.putfield 165, 3) := by decide +kernel
theorem dX6_refuses_10 : decode cX6_refuses 10 = .ok (.iload_n 1, 1) := by decide +kernel
theorem dX6_refuses_11 : decode cX6_refuses 11 = .ok (.ireturn, 1) := by decide +kernel
theorem dX6_enters_0 : decode cX6_enters 0 = .ok (.aload_n 0, 1) := by decide +kernel
theorem dX6_enters_1 : decode cX6_enters 1 = .ok (.iload_n 1, 1) := by decide +kernel
theorem dX6_enters_2 : decode cX6_enters 2 = .ok (.invokevirtual 168, 3) := by decide +kernel
theorem dX6_enters_5 : decode cX6_enters 5 = .ok (.ifCond .ne 10, 3) := by decide +kernel
theorem dX6_enters_8 : decode cX6_enters 8 = .ok (.aload_n 0, 1) := by decide +kernel
theorem dX6_enters_9 : decode cX6_enters 9 = .ok (.iconst 1, 1) := by decide +kernel
theorem dX6_enters_10 : decode cX6_enters 10 = .ok (.iload_n 1, 1) := by decide +kernel
theorem dX6_enters_11 : decode cX6_enters 11 = .ok (.invokevirtual 171, 3) := by decide +kernel
theorem dX6_enters_14 : decode cX6_enters 14 = .ok (.ireturn, 1) := by decide +kernel
theorem dX6_enters_15 : decode cX6_enters 15 = .ok (.aload_n 0, 1) := by decide +kernel
theorem dX6_enters_16 : decode cX6_enters 16 = .ok (.iload_n 2, 1) := by decide +kernel
theorem dX6_enters_17 : decode cX6_enters 17 = .ok (.invokevirtual 84, 3) := by decide +kernel
theorem dX6_enters_20 : decode cX6_enters 20 = .ok (.ifCond .ne 10, 3) := by decide +kernel
theorem dX6_enters_23 : decode cX6_enters 23 = .ok (.aload_n 0, 1) := by decide +kernel
theorem dX6_enters_24 : decode cX6_enters 24 = .ok (.iconst 2, 1) := by decide +kernel
theorem dX6_enters_25 : decode cX6_enters 25 = .ok (.iload_n 2, 1) := by decide +kernel
theorem dX6_enters_26 : decode cX6_enters 26 = .ok (.invokevirtual 171, 3) := by decide +kernel
theorem dX6_enters_29 : decode cX6_enters 29 = .ok (.ireturn, 1) := by decide +kernel
theorem dX6_enters_30 : decode cX6_enters 30 = .ok (.iload_n 3, 1) := by decide +kernel
theorem dX6_enters_31 : decode cX6_enters 31 = .ok (.iconst 1, 1) := by decide +kernel
theorem dX6_enters_32 : decode cX6_enters 32 = .ok (.if_icmp .ne 26, 3) := by decide +kernel
theorem dX6_enters_35 : decode cX6_enters 35 = .ok (.iload 4, 2) := by decide +kernel
theorem dX6_enters_37 : decode cX6_enters 37 = .ok (.aload_n 0, 1) := by decide +kernel
theorem dX6_enters_38 : decode cX6_enters 38 = .ok (.iload_n 2, 1) := by decide +kernel
theorem dX6_enters_39 : decode cX6_enters 39 = .ok (.iconst 2, 1) := by decide +kernel
theorem dX6_enters_40 : decode cX6_enters 40 = .ok (.invokevirtual 87, 3) := by decide +kernel
theorem dX6_enters_43 : decode cX6_enters 43 = .ok (.if_icmp .le 15, 3) := by decide +kernel
theorem dX6_enters_46 : decode cX6_enters 46 = .ok (.aload_n 0, 1) := by decide +kernel
theorem dX6_enters_47 : decode cX6_enters 47 = .ok (.iconst 3, 1) := by decide +kernel
theorem dX6_enters_48 : decode cX6_enters 48 = .ok (.aload_n 0, 1) := by decide +kernel
theorem dX6_enters_49 : decode cX6_enters 49 = .ok (.iload_n 2, 1) := by decide +kernel
theorem dX6_enters_50 : decode cX6_enters 50 = .ok (.iconst 2, 1) := by decide +kernel
theorem dX6_enters_51 : decode cX6_enters 51 = .ok (.invokevirtual 87, 3) := by decide +kernel
theorem dX6_enters_54 : decode cX6_enters 54 = .ok (.invokevirtual 171, 3) := by decide +kernel
theorem dX6_enters_57 : decode cX6_enters 57 = .ok (.ireturn, 1) := by decide +kernel
theorem dX6_enters_58 : decode cX6_enters 58 = .ok (.iload_n 1, 1) := by decide +kernel
theorem dX6_enters_59 : decode cX6_enters 59 = .ok (.iload_n 2, 1) := by decide +kernel
theorem dX6_enters_60 : decode cX6_enters 60 = .ok (.invokestatic 81, 3) := by decide +kernel
theorem dX6_enters_63 : decode cX6_enters 63 = .ok (.istore 5, 2) := by decide +kernel
theorem dX6_enters_65 : decode cX6_enters 65 = .ok (.aload_n 0, 1) := by decide +kernel
theorem dX6_enters_66 : decode cX6_enters 66 = .ok (.getfield 9, 3) := by decide +kernel
theorem dX6_enters_69 : decode cX6_enters 69 = .ok (.iload 5, 2) := by decide +kernel
theorem dX6_enters_71 : decode cX6_enters 71 = .ok (.iaload, 1) := by decide +kernel
theorem dX6_enters_72 : decode cX6_enters 72 = .ok (.ifCond .le 10, 3) := by decide +kernel
theorem dX6_enters_75 : decode cX6_enters 75 = .ok (.aload_n 0, 1) := by decide +kernel
theorem dX6_enters_76 : decode cX6_enters 76 = .ok (.iconst 4, 1) := by decide +kernel
theorem dX6_enters_77 : decode cX6_enters 77 = .ok (.iload_n 2, 1) := by decide +kernel
theorem dX6_enters_78 : decode cX6_enters 78 = .ok (.invokevirtual 171, 3) := by decide +kernel
theorem dX6_enters_81 : decode cX6_enters 81 = .ok (.ireturn, 1) := by decide +kernel
theorem dX6_enters_82 : decode cX6_enters 82 = .ok (.aload_n 0, 1) := by decide +kernel
theorem dX6_enters_83 : decode cX6_enters 83 = .ok (.getfield 9, 3) := by decide +kernel
theorem dX6_enters_86 : decode cX6_enters 86 = .ok (.iload 5, 2) := by decide +kernel
theorem dX6_enters_88 : decode cX6_enters 88 = .ok (.iload_n 3, 1) := by decide +kernel
theorem dX6_enters_89 : decode cX6_enters 89 = .ok (.iastore, 1) := by decide +kernel
theorem dX6_enters_90 : decode cX6_enters 90 = .ok (.aload_n 0, 1) := by decide +kernel
theorem dX6_enters_91 : decode cX6_enters 91 = .ok (.getfield 9, 3) := by decide +kernel
theorem dX6_enters_94 : decode cX6_enters 94 = .ok (.iload 5, 2) := by decide +kernel
theorem dX6_enters_96 : decode cX6_enters 96 = .ok (.iconst 1, 1) := by decide +kernel
theorem dX6_enters_97 : decode cX6_enters 97 = .ok (.iadd, 1) := by decide +kernel
theorem dX6_enters_98 : decode cX6_enters 98 = .ok (.iload 4, 2) := by decide +kernel
theorem dX6_enters_100 : decode cX6_enters 100 = .ok (.iastore, 1) := by decide +kernel
theorem dX6_enters_101 : decode cX6_enters 101 = .ok (.aload_n 0, 1) := by decide +kernel
theorem dX6_enters_102 : decode cX6_enters 102 = .ok (.getfield 9, 3) := by decide +kernel
theorem dX6_enters_105 : decode cX6_enters 105 = .ok (.iload 5, 2) := by decide +kernel
theorem dX6_enters_107 : decode cX6_enters 107 = .ok (.iconst 2, 1) := by decide +kernel
theorem dX6_enters_108 : decode cX6_enters 108 = .ok (.iadd, 1) := by decide +kernel
theorem dX6_enters_109 : decode cX6_enters 109 = .ok (.iconst (-1), 1) := by decide +kernel
theorem dX6_enters_110 : decode cX6_enters 110 = .ok (.iastore, 1) := by decide +kernel
theorem dX6_enters_111 : decode cX6_enters 111 = .ok (.aload_n 0, 1) := by decide +kernel
theorem dX6_enters_112 : decode cX6_enters 112 = .ok (.getfield 9, 3) := by decide +kernel
theorem dX6_enters_115 : decode cX6_enters 115 = .ok (.sipush 585, 3) := by decide +kernel
theorem dX6_enters_118 : decode cX6_enters 118 = .ok (.aload_n 0, 1) := by decide +kernel
theorem dX6_enters_119 : decode cX6_enters 119 = .ok (.getfield 9, 3) := by decide +kernel
theorem dX6_enters_122 : decode cX6_enters 122 = .ok (.bipush 8, 2) := by decide +kernel
theorem dX6_enters_124 : decode cX6_enters 124 = .ok (.dup2, 1) := by decide +kernel
theorem dX6_enters_125 : decode cX6_enters 125 = .ok (.iaload, 1) := by decide +kernel
theorem dX6_enters_126 : decode cX6_enters 126 = .ok (.dup_x2, 1) := by decide +kernel
theorem dX6_enters_127 : decode cX6_enters 127 = .ok (.iconst 1, 1) := by decide +kernel
theorem dX6_enters_128 : decode cX6_enters 128 = .ok (.iadd, 1) := by decide +kernel
theorem dX6_enters_129 : decode cX6_enters 129 = .ok (.iastore, 1) := by decide +kernel
theorem dX6_enters_130 : decode cX6_enters 130 = .ok (.iadd, 1) := by decide +kernel
theorem dX6_enters_131 : decode cX6_enters 131 = .ok (.bipush 8, 2) := by decide +kernel
theorem dX6_enters_133 : decode cX6_enters 133 = .ok (.iload_n 1, 1) := by decide +kernel
theorem dX6_enters_134 : decode cX6_enters 134 = .ok (.imul, 1) := by decide +kernel
theorem dX6_enters_135 : decode cX6_enters 135 = .ok (.iload_n 2, 1) := by decide +kernel
theorem dX6_enters_136 : decode cX6_enters 136 = .ok (.iadd, 1) := by decide +kernel
theorem dX6_enters_137 : decode cX6_enters 137 = .ok (.iastore, 1) := by decide +kernel
theorem dX6_enters_138 : decode cX6_enters 138 = .ok (.iconst 0, 1) := by decide +kernel
theorem dX6_enters_139 : decode cX6_enters 139 = .ok (.ireturn, 1) := by decide +kernel
theorem dX6_sits_0 : decode cX6_sits 0 = .ok (.aload_n 0, 1) := by decide +kernel
theorem dX6_sits_1 : decode cX6_sits 1 = .ok (.iload_n 1, 1) := by decide +kernel
theorem dX6_sits_2 : decode cX6_sits 2 = .ok (.invokevirtual 168, 3) := by decide +kernel
theorem dX6_sits_5 : decode cX6_sits 5 = .ok (.ifCond .ne 10, 3) := by decide +kernel
theorem dX6_sits_8 : decode cX6_sits 8 = .ok (.aload_n 0, 1) := by decide +kernel
theorem dX6_sits_9 : decode cX6_sits 9 = .ok (.iconst 1, 1) := by decide +kernel
theorem dX6_sits_10 : decode cX6_sits 10 = .ok (.iload_n 1, 1) := by decide +kernel
theorem dX6_sits_11 : decode cX6_sits 11 = .ok (.invokevirtual 171, 3) := by decide +kernel
theorem dX6_sits_14 : decode cX6_sits 14 = .ok (.ireturn, 1) := by decide +kernel
theorem dX6_sits_15 : decode cX6_sits 15 = .ok (.aload_n 0, 1) := by decide +kernel
theorem dX6_sits_16 : decode cX6_sits 16 = .ok (.iload_n 2, 1) := by decide +kernel
theorem dX6_sits_17 : decode cX6_sits 17 = .ok (.invokevirtual 84, 3) := by decide +kernel
theorem dX6_sits_20 : decode cX6_sits 20 = .ok (.ifCond .ne 10, 3) := by decide +kernel
theorem dX6_sits_23 : decode cX6_sits 23 = .ok (.aload_n 0, 1) := by decide +kernel
theorem dX6_sits_24 : decode cX6_sits 24 = .ok (.iconst 2, 1) := by decide +kernel
theorem dX6_sits_25 : decode cX6_sits 25 = .ok (.iload_n 2, 1) := by decide +kernel
theorem dX6_sits_26 : decode cX6_sits 26 = .ok (.invokevirtual 171, 3) := by decide +kernel
theorem dX6_sits_29 : decode cX6_sits 29 = .ok (.ireturn, 1) := by decide +kernel
theorem dX6_sits_30 : decode cX6_sits 30 = .ok (.iload_n 3, 1) := by decide +kernel
theorem dX6_sits_31 : decode cX6_sits 31 = .ok (.aload_n 0, 1) := by decide +kernel
theorem dX6_sits_32 : decode cX6_sits 32 = .ok (.iload_n 2, 1) := by decide +kernel
theorem dX6_sits_33 : decode cX6_sits 33 = .ok (.iconst 2, 1) := by decide +kernel
theorem dX6_sits_34 : decode cX6_sits 34 = .ok (.invokevirtual 87, 3) := by decide +kernel
theorem dX6_sits_37 : decode cX6_sits 37 = .ok (.if_icmp .le 15, 3) := by decide +kernel
theorem dX6_sits_40 : decode cX6_sits 40 = .ok (.aload_n 0, 1) := by decide +kernel
theorem dX6_sits_41 : decode cX6_sits 41 = .ok (.iconst 3, 1) := by decide +kernel
theorem dX6_sits_42 : decode cX6_sits 42 = .ok (.aload_n 0, 1) := by decide +kernel
theorem dX6_sits_43 : decode cX6_sits 43 = .ok (.iload_n 2, 1) := by decide +kernel
theorem dX6_sits_44 : decode cX6_sits 44 = .ok (.iconst 2, 1) := by decide +kernel
theorem dX6_sits_45 : decode cX6_sits 45 = .ok (.invokevirtual 87, 3) := by decide +kernel
theorem dX6_sits_48 : decode cX6_sits 48 = .ok (.invokevirtual 171, 3) := by decide +kernel
theorem dX6_sits_51 : decode cX6_sits 51 = .ok (.ireturn, 1) := by decide +kernel
theorem dX6_sits_52 : decode cX6_sits 52 = .ok (.iload_n 1, 1) := by decide +kernel
theorem dX6_sits_53 : decode cX6_sits 53 = .ok (.iload_n 2, 1) := by decide +kernel
theorem dX6_sits_54 : decode cX6_sits 54 = .ok (.invokestatic 81, 3) := by decide +kernel
theorem dX6_sits_57 : decode cX6_sits 57 = .ok (.istore 4, 2) := by decide +kernel
theorem dX6_sits_59 : decode cX6_sits 59 = .ok (.aload_n 0, 1) := by decide +kernel
theorem dX6_sits_60 : decode cX6_sits 60 = .ok (.getfield 9, 3) := by decide +kernel
theorem dX6_sits_63 : decode cX6_sits 63 = .ok (.iload 4, 2) := by decide +kernel
theorem dX6_sits_65 : decode cX6_sits 65 = .ok (.iaload, 1) := by decide +kernel
theorem dX6_sits_66 : decode cX6_sits 66 = .ok (.ifCond .ne 10, 3) := by decide +kernel
theorem dX6_sits_69 : decode cX6_sits 69 = .ok (.aload_n 0, 1) := by decide +kernel
theorem dX6_sits_70 : decode cX6_sits 70 = .ok (.iconst 5, 1) := by decide +kernel
theorem dX6_sits_71 : decode cX6_sits 71 = .ok (.iload_n 2, 1) := by decide +kernel
theorem dX6_sits_72 : decode cX6_sits 72 = .ok (.invokevirtual 171, 3) := by decide +kernel
theorem dX6_sits_75 : decode cX6_sits 75 = .ok (.ireturn, 1) := by decide +kernel
theorem dX6_sits_76 : decode cX6_sits 76 = .ok (.aload_n 0, 1) := by decide +kernel
theorem dX6_sits_77 : decode cX6_sits 77 = .ok (.getfield 9, 3) := by decide +kernel
theorem dX6_sits_80 : decode cX6_sits 80 = .ok (.iload 4, 2) := by decide +kernel
theorem dX6_sits_82 : decode cX6_sits 82 = .ok (.iconst 2, 1) := by decide +kernel
theorem dX6_sits_83 : decode cX6_sits 83 = .ok (.iadd, 1) := by decide +kernel
theorem dX6_sits_84 : decode cX6_sits 84 = .ok (.iaload, 1) := by decide +kernel
theorem dX6_sits_85 : decode cX6_sits 85 = .ok (.ifCond .lt 11, 3) := by decide +kernel
theorem dX6_sits_88 : decode cX6_sits 88 = .ok (.aload_n 0, 1) := by decide +kernel
theorem dX6_sits_89 : decode cX6_sits 89 = .ok (.bipush 6, 2) := by decide +kernel
theorem dX6_sits_91 : decode cX6_sits 91 = .ok (.iload_n 2, 1) := by decide +kernel
theorem dX6_sits_92 : decode cX6_sits 92 = .ok (.invokevirtual 171, 3) := by decide +kernel
theorem dX6_sits_95 : decode cX6_sits 95 = .ok (.ireturn, 1) := by decide +kernel
theorem dX6_sits_96 : decode cX6_sits 96 = .ok (.aload_n 0, 1) := by decide +kernel
theorem dX6_sits_97 : decode cX6_sits 97 = .ok (.iload_n 1, 1) := by decide +kernel
theorem dX6_sits_98 : decode cX6_sits 98 = .ok (.iload_n 2, 1) := by decide +kernel
theorem dX6_sits_99 : decode cX6_sits 99 = .ok (.invokevirtual 117, 3) := by decide +kernel
theorem dX6_sits_102 : decode cX6_sits 102 = .ok (.aload_n 0, 1) := by decide +kernel
theorem dX6_sits_103 : decode cX6_sits 103 = .ok (.getfield 9, 3) := by decide +kernel
theorem dX6_sits_106 : decode cX6_sits 106 = .ok (.iconst 0, 1) := by decide +kernel
theorem dX6_sits_107 : decode cX6_sits 107 = .ok (.iaload, 1) := by decide +kernel
theorem dX6_sits_108 : decode cX6_sits 108 = .ok (.if_icmp .lt 16, 3) := by decide +kernel
theorem dX6_sits_111 : decode cX6_sits 111 = .ok (.aload_n 0, 1) := by decide +kernel
theorem dX6_sits_112 : decode cX6_sits 112 = .ok (.bipush 7, 2) := by decide +kernel
theorem dX6_sits_114 : decode cX6_sits 114 = .ok (.aload_n 0, 1) := by decide +kernel
theorem dX6_sits_115 : decode cX6_sits 115 = .ok (.iload_n 1, 1) := by decide +kernel
theorem dX6_sits_116 : decode cX6_sits 116 = .ok (.iload_n 2, 1) := by decide +kernel
theorem dX6_sits_117 : decode cX6_sits 117 = .ok (.invokevirtual 117, 3) := by decide +kernel
theorem dX6_sits_120 : decode cX6_sits 120 = .ok (.invokevirtual 171, 3) := by decide +kernel
theorem dX6_sits_123 : decode cX6_sits 123 = .ok (.ireturn, 1) := by decide +kernel
theorem dX6_sits_124 : decode cX6_sits 124 = .ok (.aload_n 0, 1) := by decide +kernel
theorem dX6_sits_125 : decode cX6_sits 125 = .ok (.getfield 9, 3) := by decide +kernel
theorem dX6_sits_128 : decode cX6_sits 128 = .ok (.iload 4, 2) := by decide +kernel
theorem dX6_sits_130 : decode cX6_sits 130 = .ok (.iconst 2, 1) := by decide +kernel
theorem dX6_sits_131 : decode cX6_sits 131 = .ok (.iadd, 1) := by decide +kernel
theorem dX6_sits_132 : decode cX6_sits 132 = .ok (.iload_n 3, 1) := by decide +kernel
theorem dX6_sits_133 : decode cX6_sits 133 = .ok (.iastore, 1) := by decide +kernel
theorem dX6_sits_134 : decode cX6_sits 134 = .ok (.iconst 0, 1) := by decide +kernel
theorem dX6_sits_135 : decode cX6_sits 135 = .ok (.ireturn, 1) := by decide +kernel
theorem dX6_removes_0 : decode cX6_removes 0 = .ok (.aload_n 0, 1) := by decide +kernel
theorem dX6_removes_1 : decode cX6_removes 1 = .ok (.iload_n 1, 1) := by decide +kernel
theorem dX6_removes_2 : decode cX6_removes 2 = .ok (.invokevirtual 168, 3) := by decide +kernel
theorem dX6_removes_5 : decode cX6_removes 5 = .ok (.ifCond .ne 10, 3) := by decide +kernel
theorem dX6_removes_8 : decode cX6_removes 8 = .ok (.aload_n 0, 1) := by decide +kernel
theorem dX6_removes_9 : decode cX6_removes 9 = .ok (.iconst 1, 1) := by decide +kernel
theorem dX6_removes_10 : decode cX6_removes 10 = .ok (.iload_n 1, 1) := by decide +kernel
theorem dX6_removes_11 : decode cX6_removes 11 = .ok (.invokevirtual 171, 3) := by decide +kernel
theorem dX6_removes_14 : decode cX6_removes 14 = .ok (.ireturn, 1) := by decide +kernel
theorem dX6_removes_15 : decode cX6_removes 15 = .ok (.aload_n 0, 1) := by decide +kernel
theorem dX6_removes_16 : decode cX6_removes 16 = .ok (.iload_n 2, 1) := by decide +kernel
theorem dX6_removes_17 : decode cX6_removes 17 = .ok (.invokevirtual 84, 3) := by decide +kernel
theorem dX6_removes_20 : decode cX6_removes 20 = .ok (.ifCond .ne 10, 3) := by decide +kernel
theorem dX6_removes_23 : decode cX6_removes 23 = .ok (.aload_n 0, 1) := by decide +kernel
theorem dX6_removes_24 : decode cX6_removes 24 = .ok (.iconst 2, 1) := by decide +kernel
theorem dX6_removes_25 : decode cX6_removes 25 = .ok (.iload_n 2, 1) := by decide +kernel
theorem dX6_removes_26 : decode cX6_removes 26 = .ok (.invokevirtual 171, 3) := by decide +kernel
theorem dX6_removes_29 : decode cX6_removes 29 = .ok (.ireturn, 1) := by decide +kernel
theorem dX6_removes_30 : decode cX6_removes 30 = .ok (.iload_n 1, 1) := by decide +kernel
theorem dX6_removes_31 : decode cX6_removes 31 = .ok (.iload_n 2, 1) := by decide +kernel
theorem dX6_removes_32 : decode cX6_removes 32 = .ok (.invokestatic 81, 3) := by decide +kernel
theorem dX6_removes_35 : decode cX6_removes 35 = .ok (.istore_n 3, 1) := by decide +kernel
theorem dX6_removes_36 : decode cX6_removes 36 = .ok (.aload_n 0, 1) := by decide +kernel
theorem dX6_removes_37 : decode cX6_removes 37 = .ok (.getfield 9, 3) := by decide +kernel
theorem dX6_removes_40 : decode cX6_removes 40 = .ok (.iload_n 3, 1) := by decide +kernel
theorem dX6_removes_41 : decode cX6_removes 41 = .ok (.iaload, 1) := by decide +kernel
theorem dX6_removes_42 : decode cX6_removes 42 = .ok (.ifCond .ne 10, 3) := by decide +kernel
theorem dX6_removes_45 : decode cX6_removes 45 = .ok (.aload_n 0, 1) := by decide +kernel
theorem dX6_removes_46 : decode cX6_removes 46 = .ok (.iconst 5, 1) := by decide +kernel
theorem dX6_removes_47 : decode cX6_removes 47 = .ok (.iload_n 2, 1) := by decide +kernel
theorem dX6_removes_48 : decode cX6_removes 48 = .ok (.invokevirtual 171, 3) := by decide +kernel
theorem dX6_removes_51 : decode cX6_removes 51 = .ok (.ireturn, 1) := by decide +kernel
theorem dX6_removes_52 : decode cX6_removes 52 = .ok (.aload_n 0, 1) := by decide +kernel
theorem dX6_removes_53 : decode cX6_removes 53 = .ok (.getfield 9, 3) := by decide +kernel
theorem dX6_removes_56 : decode cX6_removes 56 = .ok (.iload_n 3, 1) := by decide +kernel
theorem dX6_removes_57 : decode cX6_removes 57 = .ok (.iconst 0, 1) := by decide +kernel
theorem dX6_removes_58 : decode cX6_removes 58 = .ok (.iastore, 1) := by decide +kernel
theorem dX6_removes_59 : decode cX6_removes 59 = .ok (.aload_n 0, 1) := by decide +kernel
theorem dX6_removes_60 : decode cX6_removes 60 = .ok (.getfield 9, 3) := by decide +kernel
theorem dX6_removes_63 : decode cX6_removes 63 = .ok (.iload_n 3, 1) := by decide +kernel
theorem dX6_removes_64 : decode cX6_removes 64 = .ok (.iconst 1, 1) := by decide +kernel
theorem dX6_removes_65 : decode cX6_removes 65 = .ok (.iadd, 1) := by decide +kernel
theorem dX6_removes_66 : decode cX6_removes 66 = .ok (.iconst 0, 1) := by decide +kernel
theorem dX6_removes_67 : decode cX6_removes 67 = .ok (.iastore, 1) := by decide +kernel
theorem dX6_removes_68 : decode cX6_removes 68 = .ok (.aload_n 0, 1) := by decide +kernel
theorem dX6_removes_69 : decode cX6_removes 69 = .ok (.getfield 9, 3) := by decide +kernel
theorem dX6_removes_72 : decode cX6_removes 72 = .ok (.iload_n 3, 1) := by decide +kernel
theorem dX6_removes_73 : decode cX6_removes 73 = .ok (.iconst 2, 1) := by decide +kernel
theorem dX6_removes_74 : decode cX6_removes 74 = .ok (.iadd, 1) := by decide +kernel
theorem dX6_removes_75 : decode cX6_removes 75 = .ok (.iconst (-1), 1) := by decide +kernel
theorem dX6_removes_76 : decode cX6_removes 76 = .ok (.iastore, 1) := by decide +kernel
theorem dX6_removes_77 : decode cX6_removes 77 = .ok (.iconst 0, 1) := by decide +kernel
theorem dX6_removes_78 : decode cX6_removes 78 = .ok (.istore 4, 2) := by decide +kernel
theorem dX6_removes_80 : decode cX6_removes 80 = .ok (.aload_n 0, 1) := by decide +kernel
theorem dX6_removes_81 : decode cX6_removes 81 = .ok (.getfield 9, 3) := by decide +kernel
theorem dX6_removes_84 : decode cX6_removes 84 = .ok (.sipush 585, 3) := by decide +kernel
theorem dX6_removes_87 : decode cX6_removes 87 = .ok (.iload 4, 2) := by decide +kernel
theorem dX6_removes_89 : decode cX6_removes 89 = .ok (.iadd, 1) := by decide +kernel
theorem dX6_removes_90 : decode cX6_removes 90 = .ok (.iaload, 1) := by decide +kernel
theorem dX6_removes_91 : decode cX6_removes 91 = .ok (.bipush 8, 2) := by decide +kernel
theorem dX6_removes_93 : decode cX6_removes 93 = .ok (.iload_n 1, 1) := by decide +kernel
theorem dX6_removes_94 : decode cX6_removes 94 = .ok (.imul, 1) := by decide +kernel
theorem dX6_removes_95 : decode cX6_removes 95 = .ok (.iload_n 2, 1) := by decide +kernel
theorem dX6_removes_96 : decode cX6_removes 96 = .ok (.iadd, 1) := by decide +kernel
theorem dX6_removes_97 : decode cX6_removes 97 = .ok (.if_icmp .eq 9, 3) := by decide +kernel
theorem dX6_removes_100 : decode cX6_removes 100 = .ok (.iinc 4 1, 3) := by decide +kernel
theorem dX6_removes_103 : decode cX6_removes 103 = .ok (.goto (-23), 3) := by decide +kernel
theorem dX6_removes_106 : decode cX6_removes 106 = .ok (.aload_n 0, 1) := by decide +kernel
theorem dX6_removes_107 : decode cX6_removes 107 = .ok (.getfield 9, 3) := by decide +kernel
theorem dX6_removes_110 : decode cX6_removes 110 = .ok (.bipush 8, 2) := by decide +kernel
theorem dX6_removes_112 : decode cX6_removes 112 = .ok (.dup2, 1) := by decide +kernel
theorem dX6_removes_113 : decode cX6_removes 113 = .ok (.iaload, 1) := by decide +kernel
theorem dX6_removes_114 : decode cX6_removes 114 = .ok (.iconst 1, 1) := by decide +kernel
theorem dX6_removes_115 : decode cX6_removes 115 = .ok (.isub, 1) := by decide +kernel
theorem dX6_removes_116 : decode cX6_removes 116 = .ok (.iastore, 1) := by decide +kernel
theorem dX6_removes_117 : decode cX6_removes 117 = .ok (.iload 4, 2) := by decide +kernel
theorem dX6_removes_119 : decode cX6_removes 119 = .ok (.aload_n 0, 1) := by decide +kernel
theorem dX6_removes_120 : decode cX6_removes 120 = .ok (.getfield 9, 3) := by decide +kernel
theorem dX6_removes_123 : decode cX6_removes 123 = .ok (.bipush 8, 2) := by decide +kernel
theorem dX6_removes_125 : decode cX6_removes 125 = .ok (.iaload, 1) := by decide +kernel
theorem dX6_removes_126 : decode cX6_removes 126 = .ok (.if_icmp .ge 33, 3) := by decide +kernel
theorem dX6_removes_129 : decode cX6_removes 129 = .ok (.aload_n 0, 1) := by decide +kernel
theorem dX6_removes_130 : decode cX6_removes 130 = .ok (.getfield 9, 3) := by decide +kernel
theorem dX6_removes_133 : decode cX6_removes 133 = .ok (.sipush 585, 3) := by decide +kernel
theorem dX6_removes_136 : decode cX6_removes 136 = .ok (.iload 4, 2) := by decide +kernel
theorem dX6_removes_138 : decode cX6_removes 138 = .ok (.iadd, 1) := by decide +kernel
theorem dX6_removes_139 : decode cX6_removes 139 = .ok (.aload_n 0, 1) := by decide +kernel
theorem dX6_removes_140 : decode cX6_removes 140 = .ok (.getfield 9, 3) := by decide +kernel
theorem dX6_removes_143 : decode cX6_removes 143 = .ok (.sipush 585, 3) := by decide +kernel
theorem dX6_removes_146 : decode cX6_removes 146 = .ok (.iload 4, 2) := by decide +kernel
theorem dX6_removes_148 : decode cX6_removes 148 = .ok (.iadd, 1) := by decide +kernel
theorem dX6_removes_149 : decode cX6_removes 149 = .ok (.iconst 1, 1) := by decide +kernel
theorem dX6_removes_150 : decode cX6_removes 150 = .ok (.iadd, 1) := by decide +kernel
theorem dX6_removes_151 : decode cX6_removes 151 = .ok (.iaload, 1) := by decide +kernel
theorem dX6_removes_152 : decode cX6_removes 152 = .ok (.iastore, 1) := by decide +kernel
theorem dX6_removes_153 : decode cX6_removes 153 = .ok (.iinc 4 1, 3) := by decide +kernel
theorem dX6_removes_156 : decode cX6_removes 156 = .ok (.goto (-39), 3) := by decide +kernel
theorem dX6_removes_159 : decode cX6_removes 159 = .ok (.iconst 0, 1) := by decide +kernel
theorem dX6_removes_160 : decode cX6_removes 160 = .ok (.ireturn, 1) := by decide +kernel
theorem dX6_isDone_0 : decode cX6_isDone 0 = .ok (.iload_n 1, 1) := by decide +kernel
theorem dX6_isDone_1 : decode cX6_isDone 1 = .ok (.ifCond .ne 9, 3) := by decide +kernel
theorem dX6_isDone_4 : decode cX6_isDone 4 = .ok (.aload_n 0, 1) := by decide +kernel
theorem dX6_isDone_5 : decode cX6_isDone 5 = .ok (.invokevirtual 57, 3) := by decide +kernel
theorem dX6_isDone_8 : decode cX6_isDone 8 = .ok (.iconst 1, 1) := by decide +kernel
theorem dX6_isDone_9 : decode cX6_isDone 9 = .ok (.ireturn, 1) := by decide +kernel
theorem dX6_isDone_10 : decode cX6_isDone 10 = .ok (.aload_n 0, 1) := by decide +kernel
theorem dX6_isDone_11 : decode cX6_isDone 11 = .ok (.bipush (-5), 2) := by decide +kernel
theorem dX6_isDone_13 : decode cX6_isDone 13 = .ok (.putfield 174, 3) := by decide +kernel
theorem dX6_isDone_16 : decode cX6_isDone 16 = .ok (.iconst 0, 1) := by decide +kernel
theorem dX6_isDone_17 : decode cX6_isDone 17 = .ok (.ireturn, 1) := by decide +kernel
theorem dX6_mark_0 : decode cX6_mark 0 = .ok (.iload_n 3, 1) := by decide +kernel
theorem dX6_mark_1 : decode cX6_mark 1 = .ok (.ifCond .ge 6, 3) := by decide +kernel
theorem dX6_mark_4 : decode cX6_mark 4 = .ok (.bipush (-2), 2) := by decide +kernel
theorem dX6_mark_6 : decode cX6_mark 6 = .ok (.ireturn, 1) := by decide +kernel
theorem dX6_mark_7 : decode cX6_mark 7 = .ok (.aload_n 0, 1) := by decide +kernel
theorem dX6_mark_8 : decode cX6_mark 8 = .ok (.invokevirtual 54, 3) := by decide +kernel
theorem dX6_mark_11 : decode cX6_mark 11 = .ok (.aload_n 0, 1) := by decide +kernel
theorem dX6_mark_12 : decode cX6_mark 12 = .ok (.aload_n 0, 1) := by decide +kernel
theorem dX6_mark_13 : decode cX6_mark 13 = .ok (.iload_n 1, 1) := by decide +kernel
theorem dX6_mark_14 : decode cX6_mark 14 = .ok (.iload_n 2, 1) := by decide +kernel
theorem dX6_mark_15 : decode cX6_mark 15 = .ok (.iconst 1, 1) := by decide +kernel
theorem dX6_mark_16 : decode cX6_mark 16 = .ok (.iload_n 3, 1) := by decide +kernel
theorem dX6_mark_17 : decode cX6_mark 17 = .ok (.invokevirtual 177, 3) := by decide +kernel
theorem dX6_mark_20 : decode cX6_mark 20 = .ok (.invokevirtual 181, 3) := by decide +kernel
theorem dX6_mark_23 : decode cX6_mark 23 = .ok (.ifCond .eq 12, 3) := by decide +kernel
theorem dX6_mark_26 : decode cX6_mark 26 = .ok (.aload_n 0, 1) := by decide +kernel
theorem dX6_mark_27 : decode cX6_mark 27 = .ok (.iload_n 2, 1) := by decide +kernel
theorem dX6_mark_28 : decode cX6_mark 28 = .ok (.iload_n 3, 1) := by decide +kernel
theorem dX6_mark_29 : decode cX6_mark 29 = .ok (.invokevirtual 97, 3) := by decide +kernel
theorem dX6_mark_32 : decode cX6_mark 32 = .ok (.goto 5, 3) := by decide +kernel
theorem dX6_mark_35 : decode cX6_mark 35 = .ok (.bipush (-4), 2) := by decide +kernel
theorem dX6_mark_37 : decode cX6_mark 37 = .ok (.ireturn, 1) := by decide +kernel
theorem dX6_absent_0 : decode cX6_absent 0 = .ok (.iload_n 3, 1) := by decide +kernel
theorem dX6_absent_1 : decode cX6_absent 1 = .ok (.iconst 0, 1) := by decide +kernel
theorem dX6_absent_2 : decode cX6_absent 2 = .ok (.iconst 1, 1) := by decide +kernel
theorem dX6_absent_3 : decode cX6_absent 3 = .ok (.invokestatic 66, 3) := by decide +kernel
theorem dX6_absent_6 : decode cX6_absent 6 = .ok (.ifCond .ne 6, 3) := by decide +kernel
theorem dX6_absent_9 : decode cX6_absent 9 = .ok (.bipush (-2), 2) := by decide +kernel
theorem dX6_absent_11 : decode cX6_absent 11 = .ok (.ireturn, 1) := by decide +kernel
theorem dX6_absent_12 : decode cX6_absent 12 = .ok (.aload_n 0, 1) := by decide +kernel
theorem dX6_absent_13 : decode cX6_absent 13 = .ok (.invokevirtual 54, 3) := by decide +kernel
theorem dX6_absent_16 : decode cX6_absent 16 = .ok (.aload_n 0, 1) := by decide +kernel
theorem dX6_absent_17 : decode cX6_absent 17 = .ok (.aload_n 0, 1) := by decide +kernel
theorem dX6_absent_18 : decode cX6_absent 18 = .ok (.iload_n 1, 1) := by decide +kernel
theorem dX6_absent_19 : decode cX6_absent 19 = .ok (.iload_n 2, 1) := by decide +kernel
theorem dX6_absent_20 : decode cX6_absent 20 = .ok (.iconst 2, 1) := by decide +kernel
theorem dX6_absent_21 : decode cX6_absent 21 = .ok (.iload_n 3, 1) := by decide +kernel
theorem dX6_absent_22 : decode cX6_absent 22 = .ok (.iadd, 1) := by decide +kernel
theorem dX6_absent_23 : decode cX6_absent 23 = .ok (.iconst 0, 1) := by decide +kernel
theorem dX6_absent_24 : decode cX6_absent 24 = .ok (.invokevirtual 177, 3) := by decide +kernel
theorem dX6_absent_27 : decode cX6_absent 27 = .ok (.invokevirtual 181, 3) := by decide +kernel
theorem dX6_absent_30 : decode cX6_absent 30 = .ok (.ifCond .ne 6, 3) := by decide +kernel
theorem dX6_absent_33 : decode cX6_absent 33 = .ok (.bipush (-4), 2) := by decide +kernel
theorem dX6_absent_35 : decode cX6_absent 35 = .ok (.ireturn, 1) := by decide +kernel
theorem dX6_absent_36 : decode cX6_absent 36 = .ok (.iconst 0, 1) := by decide +kernel
theorem dX6_absent_37 : decode cX6_absent 37 = .ok (.istore 4, 2) := by decide +kernel
theorem dX6_absent_39 : decode cX6_absent 39 = .ok (.iconst 0, 1) := by decide +kernel
theorem dX6_absent_40 : decode cX6_absent 40 = .ok (.istore 5, 2) := by decide +kernel
theorem dX6_absent_42 : decode cX6_absent 42 = .ok (.iload 5, 2) := by decide +kernel
theorem dX6_absent_44 : decode cX6_absent 44 = .ok (.aload_n 0, 1) := by decide +kernel
theorem dX6_absent_45 : decode cX6_absent 45 = .ok (.getfield 9, 3) := by decide +kernel
theorem dX6_absent_48 : decode cX6_absent 48 = .ok (.bipush 6, 2) := by decide +kernel
theorem dX6_absent_50 : decode cX6_absent 50 = .ok (.iaload, 1) := by decide +kernel
theorem dX6_absent_51 : decode cX6_absent 51 = .ok (.if_icmp .ge 26, 3) := by decide +kernel
theorem dX6_absent_54 : decode cX6_absent 54 = .ok (.aload_n 0, 1) := by decide +kernel
theorem dX6_absent_55 : decode cX6_absent 55 = .ok (.getfield 9, 3) := by decide +kernel
theorem dX6_absent_58 : decode cX6_absent 58 = .ok (.iload_n 1, 1) := by decide +kernel
theorem dX6_absent_59 : decode cX6_absent 59 = .ok (.iload 5, 2) := by decide +kernel
theorem dX6_absent_61 : decode cX6_absent 61 = .ok (.invokestatic 81, 3) := by decide +kernel
theorem dX6_absent_64 : decode cX6_absent 64 = .ok (.iaload, 1) := by decide +kernel
theorem dX6_absent_65 : decode cX6_absent 65 = .ok (.ifCond .le 6, 3) := by decide +kernel
theorem dX6_absent_68 : decode cX6_absent 68 = .ok (.iinc 4 1, 3) := by decide +kernel
theorem dX6_absent_71 : decode cX6_absent 71 = .ok (.iinc 5 1, 3) := by decide +kernel
theorem dX6_absent_74 : decode cX6_absent 74 = .ok (.goto (-32), 3) := by decide +kernel
theorem dX6_absent_77 : decode cX6_absent 77 = .ok (.iload 4, 2) := by decide +kernel
theorem dX6_absent_79 : decode cX6_absent 79 = .ok (.ireturn, 1) := by decide +kernel
theorem dX6_resit_0 : decode cX6_resit 0 = .ok (.iload_n 3, 1) := by decide +kernel
theorem dX6_resit_1 : decode cX6_resit 1 = .ok (.ifCond .ge 6, 3) := by decide +kernel
theorem dX6_resit_4 : decode cX6_resit 4 = .ok (.bipush (-2), 2) := by decide +kernel
theorem dX6_resit_6 : decode cX6_resit 6 = .ok (.ireturn, 1) := by decide +kernel
theorem dX6_resit_7 : decode cX6_resit 7 = .ok (.aload_n 0, 1) := by decide +kernel
theorem dX6_resit_8 : decode cX6_resit 8 = .ok (.invokevirtual 54, 3) := by decide +kernel
theorem dX6_resit_11 : decode cX6_resit 11 = .ok (.aload_n 0, 1) := by decide +kernel
theorem dX6_resit_12 : decode cX6_resit 12 = .ok (.aload_n 0, 1) := by decide +kernel
theorem dX6_resit_13 : decode cX6_resit 13 = .ok (.iload_n 1, 1) := by decide +kernel
theorem dX6_resit_14 : decode cX6_resit 14 = .ok (.iload_n 2, 1) := by decide +kernel
theorem dX6_resit_15 : decode cX6_resit 15 = .ok (.iload_n 3, 1) := by decide +kernel
theorem dX6_resit_16 : decode cX6_resit 16 = .ok (.invokevirtual 184, 3) := by decide +kernel
theorem dX6_resit_19 : decode cX6_resit 19 = .ok (.invokevirtual 181, 3) := by decide +kernel
theorem dX6_resit_22 : decode cX6_resit 22 = .ok (.ifCond .eq 12, 3) := by decide +kernel
theorem dX6_resit_25 : decode cX6_resit 25 = .ok (.aload_n 0, 1) := by decide +kernel
theorem dX6_resit_26 : decode cX6_resit 26 = .ok (.iload_n 1, 1) := by decide +kernel
theorem dX6_resit_27 : decode cX6_resit 27 = .ok (.iload_n 2, 1) := by decide +kernel
theorem dX6_resit_28 : decode cX6_resit 28 = .ok (.invokevirtual 120, 3) := by decide +kernel
theorem dX6_resit_31 : decode cX6_resit 31 = .ok (.goto 5, 3) := by decide +kernel
theorem dX6_resit_34 : decode cX6_resit 34 = .ok (.bipush (-4), 2) := by decide +kernel
theorem dX6_resit_36 : decode cX6_resit 36 = .ok (.ireturn, 1) := by decide +kernel
theorem dX6_remove_0 : decode cX6_remove 0 = .ok (.aload_n 0, 1) := by decide +kernel
theorem dX6_remove_1 : decode cX6_remove 1 = .ok (.invokevirtual 54, 3) := by decide +kernel
theorem dX6_remove_4 : decode cX6_remove 4 = .ok (.aload_n 0, 1) := by decide +kernel
theorem dX6_remove_5 : decode cX6_remove 5 = .ok (.iload_n 1, 1) := by decide +kernel
theorem dX6_remove_6 : decode cX6_remove 6 = .ok (.invokevirtual 168, 3) := by decide +kernel
theorem dX6_remove_9 : decode cX6_remove 9 = .ok (.ifCond .eq 30, 3) := by decide +kernel
theorem dX6_remove_12 : decode cX6_remove 12 = .ok (.aload_n 0, 1) := by decide +kernel
theorem dX6_remove_13 : decode cX6_remove 13 = .ok (.iload_n 2, 1) := by decide +kernel
theorem dX6_remove_14 : decode cX6_remove 14 = .ok (.invokevirtual 84, 3) := by decide +kernel
theorem dX6_remove_17 : decode cX6_remove 17 = .ok (.ifCond .eq 22, 3) := by decide +kernel
theorem dX6_remove_20 : decode cX6_remove 20 = .ok (.aload_n 0, 1) := by decide +kernel
theorem dX6_remove_21 : decode cX6_remove 21 = .ok (.getfield 9, 3) := by decide +kernel
theorem dX6_remove_24 : decode cX6_remove 24 = .ok (.iload_n 1, 1) := by decide +kernel
theorem dX6_remove_25 : decode cX6_remove 25 = .ok (.iload_n 2, 1) := by decide +kernel
theorem dX6_remove_26 : decode cX6_remove 26 = .ok (.invokestatic 81, 3) := by decide +kernel
theorem dX6_remove_29 : decode cX6_remove 29 = .ok (.iconst 2, 1) := by decide +kernel
theorem dX6_remove_30 : decode cX6_remove 30 = .ok (.iadd, 1) := by decide +kernel
theorem dX6_remove_31 : decode cX6_remove 31 = .ok (.iaload, 1) := by decide +kernel
theorem dX6_remove_32 : decode cX6_remove 32 = .ok (.ifCond .lt 7, 3) := by decide +kernel
theorem dX6_remove_35 : decode cX6_remove 35 = .ok (.iconst 2, 1) := by decide +kernel
theorem dX6_remove_36 : decode cX6_remove 36 = .ok (.goto 4, 3) := by decide +kernel
theorem dX6_remove_39 : decode cX6_remove 39 = .ok (.iconst 1, 1) := by decide +kernel
theorem dX6_remove_40 : decode cX6_remove 40 = .ok (.istore_n 3, 1) := by decide +kernel
theorem dX6_remove_41 : decode cX6_remove 41 = .ok (.aload_n 0, 1) := by decide +kernel
theorem dX6_remove_42 : decode cX6_remove 42 = .ok (.aload_n 0, 1) := by decide +kernel
theorem dX6_remove_43 : decode cX6_remove 43 = .ok (.iload_n 1, 1) := by decide +kernel
theorem dX6_remove_44 : decode cX6_remove 44 = .ok (.iload_n 2, 1) := by decide +kernel
theorem dX6_remove_45 : decode cX6_remove 45 = .ok (.invokevirtual 187, 3) := by decide +kernel
theorem dX6_remove_48 : decode cX6_remove 48 = .ok (.invokevirtual 181, 3) := by decide +kernel
theorem dX6_remove_51 : decode cX6_remove 51 = .ok (.ifCond .eq 7, 3) := by decide +kernel
theorem dX6_remove_54 : decode cX6_remove 54 = .ok (.iload_n 3, 1) := by decide +kernel
theorem dX6_remove_55 : decode cX6_remove 55 = .ok (.goto 5, 3) := by decide +kernel
theorem dX6_remove_58 : decode cX6_remove 58 = .ok (.bipush (-4), 2) := by decide +kernel
theorem dX6_remove_60 : decode cX6_remove 60 = .ok (.ireturn, 1) := by decide +kernel
theorem dX6_attempt_0 : decode cX6_attempt 0 = .ok (.aload_n 0, 1) := by decide +kernel
theorem dX6_attempt_1 : decode cX6_attempt 1 = .ok (.iload_n 1, 1) := by decide +kernel
theorem dX6_attempt_2 : decode cX6_attempt 2 = .ok (.invokevirtual 168, 3) := by decide +kernel
theorem dX6_attempt_5 : decode cX6_attempt 5 = .ok (.ifCond .eq 11, 3) := by decide +kernel
theorem dX6_attempt_8 : decode cX6_attempt 8 = .ok (.aload_n 0, 1) := by decide +kernel
theorem dX6_attempt_9 : decode cX6_attempt 9 = .ok (.iload_n 2, 1) := by decide +kernel
theorem dX6_attempt_10 : decode cX6_attempt 10 = .ok (.invokevirtual 84, 3) := by decide +kernel
theorem dX6_attempt_13 : decode cX6_attempt 13 = .ok (.ifCond .ne 5, 3) := by decide +kernel
theorem dX6_attempt_16 : decode cX6_attempt 16 = .ok (.iconst (-1), 1) := by decide +kernel
theorem dX6_attempt_17 : decode cX6_attempt 17 = .ok (.ireturn, 1) := by decide +kernel
theorem dX6_attempt_18 : decode cX6_attempt 18 = .ok (.iload_n 3, 1) := by decide +kernel
theorem dX6_attempt_19 : decode cX6_attempt 19 = .ok (.iconst 0, 1) := by decide +kernel
theorem dX6_attempt_20 : decode cX6_attempt 20 = .ok (.bipush 7, 2) := by decide +kernel
theorem dX6_attempt_22 : decode cX6_attempt 22 = .ok (.invokestatic 66, 3) := by decide +kernel
theorem dX6_attempt_25 : decode cX6_attempt 25 = .ok (.ifCond .ne 6, 3) := by decide +kernel
theorem dX6_attempt_28 : decode cX6_attempt 28 = .ok (.bipush (-2), 2) := by decide +kernel
theorem dX6_attempt_30 : decode cX6_attempt 30 = .ok (.ireturn, 1) := by decide +kernel
theorem dX6_attempt_31 : decode cX6_attempt 31 = .ok (.iload_n 1, 1) := by decide +kernel
theorem dX6_attempt_32 : decode cX6_attempt 32 = .ok (.iload_n 2, 1) := by decide +kernel
theorem dX6_attempt_33 : decode cX6_attempt 33 = .ok (.invokestatic 81, 3) := by decide +kernel
theorem dX6_attempt_36 : decode cX6_attempt 36 = .ok (.istore 4, 2) := by decide +kernel
theorem dX6_attempt_38 : decode cX6_attempt 38 = .ok (.aload_n 0, 1) := by decide +kernel
theorem dX6_attempt_39 : decode cX6_attempt 39 = .ok (.getfield 9, 3) := by decide +kernel
theorem dX6_attempt_42 : decode cX6_attempt 42 = .ok (.iload 4, 2) := by decide +kernel
theorem dX6_attempt_44 : decode cX6_attempt 44 = .ok (.iaload, 1) := by decide +kernel
theorem dX6_attempt_45 : decode cX6_attempt 45 = .ok (.ifCond .eq 25, 3) := by decide +kernel
theorem dX6_attempt_48 : decode cX6_attempt 48 = .ok (.iload_n 3, 1) := by decide +kernel
theorem dX6_attempt_49 : decode cX6_attempt 49 = .ok (.iconst 3, 1) := by decide +kernel
theorem dX6_attempt_50 : decode cX6_attempt 50 = .ok (.if_icmp .eq 8, 3) := by decide +kernel
theorem dX6_attempt_53 : decode cX6_attempt 53 = .ok (.iload_n 3, 1) := by decide +kernel
theorem dX6_attempt_54 : decode cX6_attempt 54 = .ok (.iconst 4, 1) := by decide +kernel
theorem dX6_attempt_55 : decode cX6_attempt 55 = .ok (.if_icmp .ne 18, 3) := by decide +kernel
theorem dX6_attempt_58 : decode cX6_attempt 58 = .ok (.aload_n 0, 1) := by decide +kernel
theorem dX6_attempt_59 : decode cX6_attempt 59 = .ok (.getfield 9, 3) := by decide +kernel
theorem dX6_attempt_62 : decode cX6_attempt 62 = .ok (.iload 4, 2) := by decide +kernel
theorem dX6_attempt_64 : decode cX6_attempt 64 = .ok (.iconst 2, 1) := by decide +kernel
theorem dX6_attempt_65 : decode cX6_attempt 65 = .ok (.iadd, 1) := by decide +kernel
theorem dX6_attempt_66 : decode cX6_attempt 66 = .ok (.iaload, 1) := by decide +kernel
theorem dX6_attempt_67 : decode cX6_attempt 67 = .ok (.ifCond .ge 6, 3) := by decide +kernel
theorem dX6_attempt_70 : decode cX6_attempt 70 = .ok (.bipush (-5), 2) := by decide +kernel
theorem dX6_attempt_72 : decode cX6_attempt 72 = .ok (.ireturn, 1) := by decide +kernel
theorem dX6_attempt_73 : decode cX6_attempt 73 = .ok (.iload_n 3, 1) := by decide +kernel
theorem dX6_attempt_74 : decode cX6_attempt 74 = .ok (.tableswitch 120 0 6 #[42, 68, 75, 82, 92, 99, 106], 42) := by decide +kernel
theorem dX6_attempt_116 : decode cX6_attempt 116 = .ok (.aload_n 0, 1) := by decide +kernel
theorem dX6_attempt_117 : decode cX6_attempt 117 = .ok (.getfield 9, 3) := by decide +kernel
theorem dX6_attempt_120 : decode cX6_attempt 120 = .ok (.iload 4, 2) := by decide +kernel
theorem dX6_attempt_122 : decode cX6_attempt 122 = .ok (.iaload, 1) := by decide +kernel
theorem dX6_attempt_123 : decode cX6_attempt 123 = .ok (.iconst 1, 1) := by decide +kernel
theorem dX6_attempt_124 : decode cX6_attempt 124 = .ok (.if_icmp .ne 15, 3) := by decide +kernel
theorem dX6_attempt_127 : decode cX6_attempt 127 = .ok (.aload_n 0, 1) := by decide +kernel
theorem dX6_attempt_128 : decode cX6_attempt 128 = .ok (.getfield 9, 3) := by decide +kernel
theorem dX6_attempt_131 : decode cX6_attempt 131 = .ok (.iload 4, 2) := by decide +kernel
theorem dX6_attempt_133 : decode cX6_attempt 133 = .ok (.iconst 1, 1) := by decide +kernel
theorem dX6_attempt_134 : decode cX6_attempt 134 = .ok (.iadd, 1) := by decide +kernel
theorem dX6_attempt_135 : decode cX6_attempt 135 = .ok (.iaload, 1) := by decide +kernel
theorem dX6_attempt_136 : decode cX6_attempt 136 = .ok (.goto 5, 3) := by decide +kernel
theorem dX6_attempt_139 : decode cX6_attempt 139 = .ok (.bipush (-5), 2) := by decide +kernel
theorem dX6_attempt_141 : decode cX6_attempt 141 = .ok (.ireturn, 1) := by decide +kernel
theorem dX6_attempt_142 : decode cX6_attempt 142 = .ok (.aload_n 0, 1) := by decide +kernel
theorem dX6_attempt_143 : decode cX6_attempt 143 = .ok (.iload_n 1, 1) := by decide +kernel
theorem dX6_attempt_144 : decode cX6_attempt 144 = .ok (.iload_n 2, 1) := by decide +kernel
theorem dX6_attempt_145 : decode cX6_attempt 145 = .ok (.invokevirtual 100, 3) := by decide +kernel
theorem dX6_attempt_148 : decode cX6_attempt 148 = .ok (.ireturn, 1) := by decide +kernel
theorem dX6_attempt_149 : decode cX6_attempt 149 = .ok (.aload_n 0, 1) := by decide +kernel
theorem dX6_attempt_150 : decode cX6_attempt 150 = .ok (.iload_n 1, 1) := by decide +kernel
theorem dX6_attempt_151 : decode cX6_attempt 151 = .ok (.iload_n 2, 1) := by decide +kernel
theorem dX6_attempt_152 : decode cX6_attempt 152 = .ok (.invokevirtual 117, 3) := by decide +kernel
theorem dX6_attempt_155 : decode cX6_attempt 155 = .ok (.ireturn, 1) := by decide +kernel
theorem dX6_attempt_156 : decode cX6_attempt 156 = .ok (.aload_n 0, 1) := by decide +kernel
theorem dX6_attempt_157 : decode cX6_attempt 157 = .ok (.getfield 9, 3) := by decide +kernel
theorem dX6_attempt_160 : decode cX6_attempt 160 = .ok (.iload 4, 2) := by decide +kernel
theorem dX6_attempt_162 : decode cX6_attempt 162 = .ok (.iconst 2, 1) := by decide +kernel
theorem dX6_attempt_163 : decode cX6_attempt 163 = .ok (.iadd, 1) := by decide +kernel
theorem dX6_attempt_164 : decode cX6_attempt 164 = .ok (.iaload, 1) := by decide +kernel
theorem dX6_attempt_165 : decode cX6_attempt 165 = .ok (.ireturn, 1) := by decide +kernel
theorem dX6_attempt_166 : decode cX6_attempt 166 = .ok (.aload_n 0, 1) := by decide +kernel
theorem dX6_attempt_167 : decode cX6_attempt 167 = .ok (.iload_n 1, 1) := by decide +kernel
theorem dX6_attempt_168 : decode cX6_attempt 168 = .ok (.iload_n 2, 1) := by decide +kernel
theorem dX6_attempt_169 : decode cX6_attempt 169 = .ok (.invokevirtual 120, 3) := by decide +kernel
theorem dX6_attempt_172 : decode cX6_attempt 172 = .ok (.ireturn, 1) := by decide +kernel
theorem dX6_attempt_173 : decode cX6_attempt 173 = .ok (.aload_n 0, 1) := by decide +kernel
theorem dX6_attempt_174 : decode cX6_attempt 174 = .ok (.iload_n 1, 1) := by decide +kernel
theorem dX6_attempt_175 : decode cX6_attempt 175 = .ok (.iload_n 2, 1) := by decide +kernel
theorem dX6_attempt_176 : decode cX6_attempt 176 = .ok (.invokevirtual 129, 3) := by decide +kernel
theorem dX6_attempt_179 : decode cX6_attempt 179 = .ok (.ireturn, 1) := by decide +kernel
theorem dX6_attempt_180 : decode cX6_attempt 180 = .ok (.aload_n 0, 1) := by decide +kernel
theorem dX6_attempt_181 : decode cX6_attempt 181 = .ok (.iload_n 1, 1) := by decide +kernel
theorem dX6_attempt_182 : decode cX6_attempt 182 = .ok (.iconst (-1), 1) := by decide +kernel
theorem dX6_attempt_183 : decode cX6_attempt 183 = .ok (.iconst 0, 1) := by decide +kernel
theorem dX6_attempt_184 : decode cX6_attempt 184 = .ok (.invokevirtual 90, 3) := by decide +kernel
theorem dX6_attempt_187 : decode cX6_attempt 187 = .ok (.aload_n 0, 1) := by decide +kernel
theorem dX6_attempt_188 : decode cX6_attempt 188 = .ok (.getfield 31, 3) := by decide +kernel
theorem dX6_attempt_191 : decode cX6_attempt 191 = .ok (.iload_n 2, 1) := by decide +kernel
theorem dX6_attempt_192 : decode cX6_attempt 192 = .ok (.iaload, 1) := by decide +kernel
theorem dX6_attempt_193 : decode cX6_attempt 193 = .ok (.ireturn, 1) := by decide +kernel
theorem dX6_attempt_194 : decode cX6_attempt 194 = .ok (.aload_n 0, 1) := by decide +kernel
theorem dX6_attempt_195 : decode cX6_attempt 195 = .ok (.getfield 9, 3) := by decide +kernel
theorem dX6_attempt_198 : decode cX6_attempt 198 = .ok (.iload 4, 2) := by decide +kernel
theorem dX6_attempt_200 : decode cX6_attempt 200 = .ok (.iaload, 1) := by decide +kernel
theorem dX6_attempt_201 : decode cX6_attempt 201 = .ok (.iconst 1, 1) := by decide +kernel
theorem dX6_attempt_202 : decode cX6_attempt 202 = .ok (.isub, 1) := by decide +kernel
theorem dX6_attempt_203 : decode cX6_attempt 203 = .ok (.ireturn, 1) := by decide +kernel
theorem dX6_entered_0 : decode cX6_entered 0 = .ok (.iload_n 1, 1) := by decide +kernel
theorem dX6_entered_1 : decode cX6_entered 1 = .ok (.iconst 0, 1) := by decide +kernel
theorem dX6_entered_2 : decode cX6_entered 2 = .ok (.aload_n 0, 1) := by decide +kernel
theorem dX6_entered_3 : decode cX6_entered 3 = .ok (.getfield 9, 3) := by decide +kernel
theorem dX6_entered_6 : decode cX6_entered 6 = .ok (.bipush 8, 2) := by decide +kernel
theorem dX6_entered_8 : decode cX6_entered 8 = .ok (.iaload, 1) := by decide +kernel
theorem dX6_entered_9 : decode cX6_entered 9 = .ok (.iconst 1, 1) := by decide +kernel
theorem dX6_entered_10 : decode cX6_entered 10 = .ok (.isub, 1) := by decide +kernel
theorem dX6_entered_11 : decode cX6_entered 11 = .ok (.invokestatic 66, 3) := by decide +kernel
theorem dX6_entered_14 : decode cX6_entered 14 = .ok (.ifCond .ne 5, 3) := by decide +kernel
theorem dX6_entered_17 : decode cX6_entered 17 = .ok (.iconst (-1), 1) := by decide +kernel
theorem dX6_entered_18 : decode cX6_entered 18 = .ok (.ireturn, 1) := by decide +kernel
theorem dX6_entered_19 : decode cX6_entered 19 = .ok (.aload_n 0, 1) := by decide +kernel
theorem dX6_entered_20 : decode cX6_entered 20 = .ok (.getfield 9, 3) := by decide +kernel
theorem dX6_entered_23 : decode cX6_entered 23 = .ok (.sipush 585, 3) := by decide +kernel
theorem dX6_entered_26 : decode cX6_entered 26 = .ok (.iload_n 1, 1) := by decide +kernel
theorem dX6_entered_27 : decode cX6_entered 27 = .ok (.iadd, 1) := by decide +kernel
theorem dX6_entered_28 : decode cX6_entered 28 = .ok (.iaload, 1) := by decide +kernel
theorem dX6_entered_29 : decode cX6_entered 29 = .ok (.bipush 8, 2) := by decide +kernel
theorem dX6_entered_31 : decode cX6_entered 31 = .ok (.idiv, 1) := by decide +kernel
theorem dX6_entered_32 : decode cX6_entered 32 = .ok (.istore_n 3, 1) := by decide +kernel
theorem dX6_entered_33 : decode cX6_entered 33 = .ok (.aload_n 0, 1) := by decide +kernel
theorem dX6_entered_34 : decode cX6_entered 34 = .ok (.getfield 9, 3) := by decide +kernel
theorem dX6_entered_37 : decode cX6_entered 37 = .ok (.sipush 585, 3) := by decide +kernel
theorem dX6_entered_40 : decode cX6_entered 40 = .ok (.iload_n 1, 1) := by decide +kernel
theorem dX6_entered_41 : decode cX6_entered 41 = .ok (.iadd, 1) := by decide +kernel
theorem dX6_entered_42 : decode cX6_entered 42 = .ok (.iaload, 1) := by decide +kernel
theorem dX6_entered_43 : decode cX6_entered 43 = .ok (.bipush 8, 2) := by decide +kernel
theorem dX6_entered_45 : decode cX6_entered 45 = .ok (.irem, 1) := by decide +kernel
theorem dX6_entered_46 : decode cX6_entered 46 = .ok (.istore 4, 2) := by decide +kernel
theorem dX6_entered_48 : decode cX6_entered 48 = .ok (.iload_n 2, 1) := by decide +kernel
theorem dX6_entered_49 : decode cX6_entered 49 = .ok (.ifCond .ne 7, 3) := by decide +kernel
theorem dX6_entered_52 : decode cX6_entered 52 = .ok (.iload_n 3, 1) := by decide +kernel
theorem dX6_entered_53 : decode cX6_entered 53 = .ok (.goto 30, 3) := by decide +kernel
theorem dX6_entered_56 : decode cX6_entered 56 = .ok (.iload_n 2, 1) := by decide +kernel
theorem dX6_entered_57 : decode cX6_entered 57 = .ok (.iconst 1, 1) := by decide +kernel
theorem dX6_entered_58 : decode cX6_entered 58 = .ok (.if_icmp .ne 8, 3) := by decide +kernel
theorem dX6_entered_61 : decode cX6_entered 61 = .ok (.iload 4, 2) := by decide +kernel
theorem dX6_entered_63 : decode cX6_entered 63 = .ok (.goto 20, 3) := by decide +kernel
theorem dX6_entered_66 : decode cX6_entered 66 = .ok (.iload_n 2, 1) := by decide +kernel
theorem dX6_entered_67 : decode cX6_entered 67 = .ok (.iconst 2, 1) := by decide +kernel
theorem dX6_entered_68 : decode cX6_entered 68 = .ok (.if_icmp .ne 13, 3) := by decide +kernel
theorem dX6_entered_71 : decode cX6_entered 71 = .ok (.aload_n 0, 1) := by decide +kernel
theorem dX6_entered_72 : decode cX6_entered 72 = .ok (.iload_n 3, 1) := by decide +kernel
theorem dX6_entered_73 : decode cX6_entered 73 = .ok (.iload 4, 2) := by decide +kernel
theorem dX6_entered_75 : decode cX6_entered 75 = .ok (.invokevirtual 129, 3) := by decide +kernel
theorem dX6_entered_78 : decode cX6_entered 78 = .ok (.goto 5, 3) := by decide +kernel
theorem dX6_entered_81 : decode cX6_entered 81 = .ok (.bipush (-2), 2) := by decide +kernel
theorem dX6_entered_83 : decode cX6_entered 83 = .ok (.ireturn, 1) := by decide +kernel
theorem dX6_hasRule_0 : decode cX6_hasRule 0 = .ok (.aload_n 0, 1) := by decide +kernel
theorem dX6_hasRule_1 : decode cX6_hasRule 1 = .ok (.iload_n 1, 1) := by decide +kernel
theorem dX6_hasRule_2 : decode cX6_hasRule 2 = .ok (.invokevirtual 84, 3) := by decide +kernel
theorem dX6_hasRule_5 : decode cX6_hasRule 5 = .ok (.ifCond .eq 16, 3) := by decide +kernel
theorem dX6_hasRule_8 : decode cX6_hasRule 8 = .ok (.iload_n 2, 1) := by decide +kernel
theorem dX6_hasRule_9 : decode cX6_hasRule 9 = .ok (.iconst 0, 1) := by decide +kernel
theorem dX6_hasRule_10 : decode cX6_hasRule 10 = .ok (.iconst 2, 1) := by decide +kernel
theorem dX6_hasRule_11 : decode cX6_hasRule 11 = .ok (.invokestatic 66, 3) := by decide +kernel
theorem dX6_hasRule_14 : decode cX6_hasRule 14 = .ok (.ifCond .eq 7, 3) := by decide +kernel
theorem dX6_hasRule_17 : decode cX6_hasRule 17 = .ok (.iconst 1, 1) := by decide +kernel
theorem dX6_hasRule_18 : decode cX6_hasRule 18 = .ok (.goto 4, 3) := by decide +kernel
theorem dX6_hasRule_21 : decode cX6_hasRule 21 = .ok (.iconst 0, 1) := by decide +kernel
theorem dX6_hasRule_22 : decode cX6_hasRule 22 = .ok (.ireturn, 1) := by decide +kernel
theorem dX6_isRule_0 : decode cX6_isRule 0 = .ok (.iload_n 0, 1) := by decide +kernel
theorem dX6_isRule_1 : decode cX6_isRule 1 = .ok (.tableswitch 68 0 3 #[31, 41, 50, 60], 31) := by decide +kernel
theorem dX6_isRule_32 : decode cX6_isRule 32 = .ok (.iload_n 1, 1) := by decide +kernel
theorem dX6_isRule_33 : decode cX6_isRule 33 = .ok (.ifCond .ne 7, 3) := by decide +kernel
theorem dX6_isRule_36 : decode cX6_isRule 36 = .ok (.iconst 1, 1) := by decide +kernel
theorem dX6_isRule_37 : decode cX6_isRule 37 = .ok (.goto 4, 3) := by decide +kernel
theorem dX6_isRule_40 : decode cX6_isRule 40 = .ok (.iconst 0, 1) := by decide +kernel
theorem dX6_isRule_41 : decode cX6_isRule 41 = .ok (.ireturn, 1) := by decide +kernel
theorem dX6_isRule_42 : decode cX6_isRule 42 = .ok (.iload_n 1, 1) := by decide +kernel
theorem dX6_isRule_43 : decode cX6_isRule 43 = .ok (.bipush (-30), 2) := by decide +kernel
theorem dX6_isRule_45 : decode cX6_isRule 45 = .ok (.bipush 30, 2) := by decide +kernel
theorem dX6_isRule_47 : decode cX6_isRule 47 = .ok (.invokestatic 66, 3) := by decide +kernel
theorem dX6_isRule_50 : decode cX6_isRule 50 = .ok (.ireturn, 1) := by decide +kernel
theorem dX6_isRule_51 : decode cX6_isRule 51 = .ok (.iload_n 1, 1) := by decide +kernel
theorem dX6_isRule_52 : decode cX6_isRule 52 = .ok (.bipush 50, 2) := by decide +kernel
theorem dX6_isRule_54 : decode cX6_isRule 54 = .ok (.sipush 150, 3) := by decide +kernel
theorem dX6_isRule_57 : decode cX6_isRule 57 = .ok (.invokestatic 66, 3) := by decide +kernel
theorem dX6_isRule_60 : decode cX6_isRule 60 = .ok (.ireturn, 1) := by decide +kernel
theorem dX6_isRule_61 : decode cX6_isRule 61 = .ok (.iload_n 1, 1) := by decide +kernel
theorem dX6_isRule_62 : decode cX6_isRule 62 = .ok (.iconst 0, 1) := by decide +kernel
theorem dX6_isRule_63 : decode cX6_isRule 63 = .ok (.bipush 100, 2) := by decide +kernel
theorem dX6_isRule_65 : decode cX6_isRule 65 = .ok (.invokestatic 66, 3) := by decide +kernel
theorem dX6_isRule_68 : decode cX6_isRule 68 = .ok (.ireturn, 1) := by decide +kernel
theorem dX6_isRule_69 : decode cX6_isRule 69 = .ok (.iconst 0, 1) := by decide +kernel
theorem dX6_isRule_70 : decode cX6_isRule 70 = .ok (.ireturn, 1) := by decide +kernel
theorem dX6_scale_0 : decode cX6_scale 0 = .ok (.aload_n 0, 1) := by decide +kernel
theorem dX6_scale_1 : decode cX6_scale 1 = .ok (.iload_n 1, 1) := by decide +kernel
theorem dX6_scale_2 : decode cX6_scale 2 = .ok (.iload_n 2, 1) := by decide +kernel
theorem dX6_scale_3 : decode cX6_scale 3 = .ok (.invokevirtual 190, 3) := by decide +kernel
theorem dX6_scale_6 : decode cX6_scale 6 = .ok (.ifCond .ne 5, 3) := by decide +kernel
theorem dX6_scale_9 : decode cX6_scale 9 = .ok (.iconst (-1), 1) := by decide +kernel
theorem dX6_scale_10 : decode cX6_scale 10 = .ok (.ireturn, 1) := by decide +kernel
theorem dX6_scale_11 : decode cX6_scale 11 = .ok (.iload_n 3, 1) := by decide +kernel
theorem dX6_scale_12 : decode cX6_scale 12 = .ok (.iload 4, 2) := by decide +kernel
theorem dX6_scale_14 : decode cX6_scale 14 = .ok (.invokestatic 193, 3) := by decide +kernel
theorem dX6_scale_17 : decode cX6_scale 17 = .ok (.ifCond .ne 6, 3) := by decide +kernel
theorem dX6_scale_20 : decode cX6_scale 20 = .ok (.bipush (-2), 2) := by decide +kernel
theorem dX6_scale_22 : decode cX6_scale 22 = .ok (.ireturn, 1) := by decide +kernel
theorem dX6_scale_23 : decode cX6_scale 23 = .ok (.aload_n 0, 1) := by decide +kernel
theorem dX6_scale_24 : decode cX6_scale 24 = .ok (.invokevirtual 74, 3) := by decide +kernel
theorem dX6_scale_27 : decode cX6_scale 27 = .ok (.sipush 537, 3) := by decide +kernel
theorem dX6_scale_30 : decode cX6_scale 30 = .ok (.iconst 2, 1) := by decide +kernel
theorem dX6_scale_31 : decode cX6_scale 31 = .ok (.iconst 3, 1) := by decide +kernel
theorem dX6_scale_32 : decode cX6_scale 32 = .ok (.iload_n 1, 1) := by decide +kernel
theorem dX6_scale_33 : decode cX6_scale 33 = .ok (.imul, 1) := by decide +kernel
theorem dX6_scale_34 : decode cX6_scale 34 = .ok (.iload_n 2, 1) := by decide +kernel
theorem dX6_scale_35 : decode cX6_scale 35 = .ok (.iadd, 1) := by decide +kernel
theorem dX6_scale_36 : decode cX6_scale 36 = .ok (.imul, 1) := by decide +kernel
theorem dX6_scale_37 : decode cX6_scale 37 = .ok (.iadd, 1) := by decide +kernel
theorem dX6_scale_38 : decode cX6_scale 38 = .ok (.istore 5, 2) := by decide +kernel
theorem dX6_scale_40 : decode cX6_scale 40 = .ok (.aload_n 0, 1) := by decide +kernel
theorem dX6_scale_41 : decode cX6_scale 41 = .ok (.getfield 9, 3) := by decide +kernel
theorem dX6_scale_44 : decode cX6_scale 44 = .ok (.iload 5, 2) := by decide +kernel
theorem dX6_scale_46 : decode cX6_scale 46 = .ok (.iaload, 1) := by decide +kernel
theorem dX6_scale_47 : decode cX6_scale 47 = .ok (.istore 6, 2) := by decide +kernel
theorem dX6_scale_49 : decode cX6_scale 49 = .ok (.aload_n 0, 1) := by decide +kernel
theorem dX6_scale_50 : decode cX6_scale 50 = .ok (.getfield 9, 3) := by decide +kernel
theorem dX6_scale_53 : decode cX6_scale 53 = .ok (.iload 5, 2) := by decide +kernel
theorem dX6_scale_55 : decode cX6_scale 55 = .ok (.iload_n 3, 1) := by decide +kernel
theorem dX6_scale_56 : decode cX6_scale 56 = .ok (.iastore, 1) := by decide +kernel
theorem dX6_scale_57 : decode cX6_scale 57 = .ok (.aload_n 0, 1) := by decide +kernel
theorem dX6_scale_58 : decode cX6_scale 58 = .ok (.getfield 9, 3) := by decide +kernel
theorem dX6_scale_61 : decode cX6_scale 61 = .ok (.iload 5, 2) := by decide +kernel
theorem dX6_scale_63 : decode cX6_scale 63 = .ok (.iconst 1, 1) := by decide +kernel
theorem dX6_scale_64 : decode cX6_scale 64 = .ok (.iadd, 1) := by decide +kernel
theorem dX6_scale_65 : decode cX6_scale 65 = .ok (.iload 4, 2) := by decide +kernel
theorem dX6_scale_67 : decode cX6_scale 67 = .ok (.iastore, 1) := by decide +kernel
theorem dX6_scale_68 : decode cX6_scale 68 = .ok (.iload 6, 2) := by decide +kernel
theorem dX6_scale_70 : decode cX6_scale 70 = .ok (.ireturn, 1) := by decide +kernel
theorem dX6_belongs_0 : decode cX6_belongs 0 = .ok (.aload_n 0, 1) := by decide +kernel
theorem dX6_belongs_1 : decode cX6_belongs 1 = .ok (.getfield 9, 3) := by decide +kernel
theorem dX6_belongs_4 : decode cX6_belongs 4 = .ok (.bipush 37, 2) := by decide +kernel
theorem dX6_belongs_6 : decode cX6_belongs 6 = .ok (.iload_n 1, 1) := by decide +kernel
theorem dX6_belongs_7 : decode cX6_belongs 7 = .ok (.iadd, 1) := by decide +kernel
theorem dX6_belongs_8 : decode cX6_belongs 8 = .ok (.iaload, 1) := by decide +kernel
theorem dX6_belongs_9 : decode cX6_belongs 9 = .ok (.iload_n 3, 1) := by decide +kernel
theorem dX6_belongs_10 : decode cX6_belongs 10 = .ok (.if_icmp .ne 21, 3) := by decide +kernel
theorem dX6_belongs_13 : decode cX6_belongs 13 = .ok (.aload_n 0, 1) := by decide +kernel
theorem dX6_belongs_14 : decode cX6_belongs 14 = .ok (.getfield 9, 3) := by decide +kernel
theorem dX6_belongs_17 : decode cX6_belongs 17 = .ok (.iload_n 1, 1) := by decide +kernel
theorem dX6_belongs_18 : decode cX6_belongs 18 = .ok (.iload_n 2, 1) := by decide +kernel
theorem dX6_belongs_19 : decode cX6_belongs 19 = .ok (.invokestatic 81, 3) := by decide +kernel
theorem dX6_belongs_22 : decode cX6_belongs 22 = .ok (.iaload, 1) := by decide +kernel
theorem dX6_belongs_23 : decode cX6_belongs 23 = .ok (.iconst 1, 1) := by decide +kernel
theorem dX6_belongs_24 : decode cX6_belongs 24 = .ok (.if_icmp .ne 7, 3) := by decide +kernel
theorem dX6_belongs_27 : decode cX6_belongs 27 = .ok (.iconst 1, 1) := by decide +kernel
theorem dX6_belongs_28 : decode cX6_belongs 28 = .ok (.goto 4, 3) := by decide +kernel
theorem dX6_belongs_31 : decode cX6_belongs 31 = .ok (.iconst 0, 1) := by decide +kernel
theorem dX6_belongs_32 : decode cX6_belongs 32 = .ok (.ireturn, 1) := by decide +kernel
theorem dX6_scaling_0 : decode cX6_scaling 0 = .ok (.aload_n 0, 1) := by decide +kernel
theorem dX6_scaling_1 : decode cX6_scaling 1 = .ok (.iload_n 1, 1) := by decide +kernel
theorem dX6_scaling_2 : decode cX6_scaling 2 = .ok (.iload_n 2, 1) := by decide +kernel
theorem dX6_scaling_3 : decode cX6_scaling 3 = .ok (.invokevirtual 190, 3) := by decide +kernel
theorem dX6_scaling_6 : decode cX6_scaling 6 = .ok (.ifCond .ne 5, 3) := by decide +kernel
theorem dX6_scaling_9 : decode cX6_scaling 9 = .ok (.iconst (-1), 1) := by decide +kernel
theorem dX6_scaling_10 : decode cX6_scaling 10 = .ok (.ireturn, 1) := by decide +kernel
theorem dX6_scaling_11 : decode cX6_scaling 11 = .ok (.iload_n 3, 1) := by decide +kernel
theorem dX6_scaling_12 : decode cX6_scaling 12 = .ok (.iconst 0, 1) := by decide +kernel
theorem dX6_scaling_13 : decode cX6_scaling 13 = .ok (.bipush 6, 2) := by decide +kernel
theorem dX6_scaling_15 : decode cX6_scaling 15 = .ok (.invokestatic 66, 3) := by decide +kernel
theorem dX6_scaling_18 : decode cX6_scaling 18 = .ok (.ifCond .ne 6, 3) := by decide +kernel
theorem dX6_scaling_21 : decode cX6_scaling 21 = .ok (.bipush (-2), 2) := by decide +kernel
theorem dX6_scaling_23 : decode cX6_scaling 23 = .ok (.ireturn, 1) := by decide +kernel
theorem dX6_scaling_24 : decode cX6_scaling 24 = .ok (.aload_n 0, 1) := by decide +kernel
theorem dX6_scaling_25 : decode cX6_scaling 25 = .ok (.iload_n 1, 1) := by decide +kernel
theorem dX6_scaling_26 : decode cX6_scaling 26 = .ok (.iload_n 2, 1) := by decide +kernel
theorem dX6_scaling_27 : decode cX6_scaling 27 = .ok (.iconst 1, 1) := by decide +kernel
theorem dX6_scaling_28 : decode cX6_scaling 28 = .ok (.invokevirtual 103, 3) := by decide +kernel
theorem dX6_scaling_31 : decode cX6_scaling 31 = .ok (.istore 4, 2) := by decide +kernel
theorem dX6_scaling_33 : decode cX6_scaling 33 = .ok (.iload_n 3, 1) := by decide +kernel
theorem dX6_scaling_34 : decode cX6_scaling 34 = .ok (.iconst 2, 1) := by decide +kernel
theorem dX6_scaling_35 : decode cX6_scaling 35 = .ok (.if_icmp .ge 22, 3) := by decide +kernel
theorem dX6_scaling_38 : decode cX6_scaling 38 = .ok (.aload_n 0, 1) := by decide +kernel
theorem dX6_scaling_39 : decode cX6_scaling 39 = .ok (.getfield 9, 3) := by decide +kernel
theorem dX6_scaling_42 : decode cX6_scaling 42 = .ok (.sipush 537, 3) := by decide +kernel
theorem dX6_scaling_45 : decode cX6_scaling 45 = .ok (.iconst 2, 1) := by decide +kernel
theorem dX6_scaling_46 : decode cX6_scaling 46 = .ok (.iconst 3, 1) := by decide +kernel
theorem dX6_scaling_47 : decode cX6_scaling 47 = .ok (.iload_n 1, 1) := by decide +kernel
theorem dX6_scaling_48 : decode cX6_scaling 48 = .ok (.imul, 1) := by decide +kernel
theorem dX6_scaling_49 : decode cX6_scaling 49 = .ok (.iload_n 2, 1) := by decide +kernel
theorem dX6_scaling_50 : decode cX6_scaling 50 = .ok (.iadd, 1) := by decide +kernel
theorem dX6_scaling_51 : decode cX6_scaling 51 = .ok (.imul, 1) := by decide +kernel
theorem dX6_scaling_52 : decode cX6_scaling 52 = .ok (.iadd, 1) := by decide +kernel
theorem dX6_scaling_53 : decode cX6_scaling 53 = .ok (.iload_n 3, 1) := by decide +kernel
theorem dX6_scaling_54 : decode cX6_scaling 54 = .ok (.iadd, 1) := by decide +kernel
theorem dX6_scaling_55 : decode cX6_scaling 55 = .ok (.iaload, 1) := by decide +kernel
theorem dX6_scaling_56 : decode cX6_scaling 56 = .ok (.ireturn, 1) := by decide +kernel
theorem dX6_scaling_57 : decode cX6_scaling 57 = .ok (.iload_n 3, 1) := by decide +kernel
theorem dX6_scaling_58 : decode cX6_scaling 58 = .ok (.iconst 2, 1) := by decide +kernel
theorem dX6_scaling_59 : decode cX6_scaling 59 = .ok (.if_icmp .ne 6, 3) := by decide +kernel
theorem dX6_scaling_62 : decode cX6_scaling 62 = .ok (.iload 4, 2) := by decide +kernel
theorem dX6_scaling_64 : decode cX6_scaling 64 = .ok (.ireturn, 1) := by decide +kernel
theorem dX6_scaling_65 : decode cX6_scaling 65 = .ok (.iload_n 3, 1) := by decide +kernel
theorem dX6_scaling_66 : decode cX6_scaling 66 = .ok (.iconst 5, 1) := by decide +kernel
theorem dX6_scaling_67 : decode cX6_scaling 67 = .ok (.if_icmp .ge 11, 3) := by decide +kernel
theorem dX6_scaling_70 : decode cX6_scaling 70 = .ok (.iload 4, 2) := by decide +kernel
theorem dX6_scaling_72 : decode cX6_scaling 72 = .ok (.ifCond .ne 6, 3) := by decide +kernel
theorem dX6_scaling_75 : decode cX6_scaling 75 = .ok (.bipush (-5), 2) := by decide +kernel
theorem dX6_scaling_77 : decode cX6_scaling 77 = .ok (.ireturn, 1) := by decide +kernel
theorem dX6_scaling_78 : decode cX6_scaling 78 = .ok (.iload_n 3, 1) := by decide +kernel
theorem dX6_scaling_79 : decode cX6_scaling 79 = .ok (.iconst 3, 1) := by decide +kernel
theorem dX6_scaling_80 : decode cX6_scaling 80 = .ok (.if_icmp .ne 16, 3) := by decide +kernel
theorem dX6_scaling_83 : decode cX6_scaling 83 = .ok (.aload_n 0, 1) := by decide +kernel
theorem dX6_scaling_84 : decode cX6_scaling 84 = .ok (.iload_n 1, 1) := by decide +kernel
theorem dX6_scaling_85 : decode cX6_scaling 85 = .ok (.iload_n 2, 1) := by decide +kernel
theorem dX6_scaling_86 : decode cX6_scaling 86 = .ok (.iconst 0, 1) := by decide +kernel
theorem dX6_scaling_87 : decode cX6_scaling 87 = .ok (.invokevirtual 103, 3) := by decide +kernel
theorem dX6_scaling_90 : decode cX6_scaling 90 = .ok (.iload 4, 2) := by decide +kernel
theorem dX6_scaling_92 : decode cX6_scaling 92 = .ok (.invokestatic 94, 3) := by decide +kernel
theorem dX6_scaling_95 : decode cX6_scaling 95 = .ok (.ireturn, 1) := by decide +kernel
theorem dX6_scaling_96 : decode cX6_scaling 96 = .ok (.iconst 0, 1) := by decide +kernel
theorem dX6_scaling_97 : decode cX6_scaling 97 = .ok (.istore 5, 2) := by decide +kernel
theorem dX6_scaling_99 : decode cX6_scaling 99 = .ok (.iconst 0, 1) := by decide +kernel
theorem dX6_scaling_100 : decode cX6_scaling 100 = .ok (.istore 6, 2) := by decide +kernel
theorem dX6_scaling_102 : decode cX6_scaling 102 = .ok (.iconst 0, 1) := by decide +kernel
theorem dX6_scaling_103 : decode cX6_scaling 103 = .ok (.istore 7, 2) := by decide +kernel
theorem dX6_scaling_105 : decode cX6_scaling 105 = .ok (.iconst 0, 1) := by decide +kernel
theorem dX6_scaling_106 : decode cX6_scaling 106 = .ok (.istore 8, 2) := by decide +kernel
theorem dX6_scaling_108 : decode cX6_scaling 108 = .ok (.iload 8, 2) := by decide +kernel
theorem dX6_scaling_110 : decode cX6_scaling 110 = .ok (.aload_n 0, 1) := by decide +kernel
theorem dX6_scaling_111 : decode cX6_scaling 111 = .ok (.getfield 9, 3) := by decide +kernel
theorem dX6_scaling_114 : decode cX6_scaling 114 = .ok (.bipush 7, 2) := by decide +kernel
theorem dX6_scaling_116 : decode cX6_scaling 116 = .ok (.iaload, 1) := by decide +kernel
theorem dX6_scaling_117 : decode cX6_scaling 117 = .ok (.if_icmp .ge 139, 3) := by decide +kernel
theorem dX6_scaling_120 : decode cX6_scaling 120 = .ok (.aload_n 0, 1) := by decide +kernel
theorem dX6_scaling_121 : decode cX6_scaling 121 = .ok (.iload 8, 2) := by decide +kernel
theorem dX6_scaling_123 : decode cX6_scaling 123 = .ok (.iload_n 1, 1) := by decide +kernel
theorem dX6_scaling_124 : decode cX6_scaling 124 = .ok (.iload_n 2, 1) := by decide +kernel
theorem dX6_scaling_125 : decode cX6_scaling 125 = .ok (.invokevirtual 196, 3) := by decide +kernel
theorem dX6_scaling_128 : decode cX6_scaling 128 = .ok (.ifCond .ne 6, 3) := by decide +kernel
theorem dX6_scaling_131 : decode cX6_scaling 131 = .ok (.goto 119, 3) := by decide +kernel
theorem dX6_scaling_134 : decode cX6_scaling 134 = .ok (.aload_n 0, 1) := by decide +kernel
theorem dX6_scaling_135 : decode cX6_scaling 135 = .ok (.iload 8, 2) := by decide +kernel
theorem dX6_scaling_137 : decode cX6_scaling 137 = .ok (.iload_n 1, 1) := by decide +kernel
theorem dX6_scaling_138 : decode cX6_scaling 138 = .ok (.invokevirtual 117, 3) := by decide +kernel
theorem dX6_scaling_141 : decode cX6_scaling 141 = .ok (.istore 9, 2) := by decide +kernel
theorem dX6_scaling_143 : decode cX6_scaling 143 = .ok (.iload 5, 2) := by decide +kernel
theorem dX6_scaling_145 : decode cX6_scaling 145 = .ok (.iload 9, 2) := by decide +kernel
theorem dX6_scaling_147 : decode cX6_scaling 147 = .ok (.iadd, 1) := by decide +kernel
theorem dX6_scaling_148 : decode cX6_scaling 148 = .ok (.istore 5, 2) := by decide +kernel
theorem dX6_scaling_150 : decode cX6_scaling 150 = .ok (.iconst 1, 1) := by decide +kernel
theorem dX6_scaling_151 : decode cX6_scaling 151 = .ok (.istore 10, 2) := by decide +kernel
theorem dX6_scaling_153 : decode cX6_scaling 153 = .ok (.iconst 0, 1) := by decide +kernel
theorem dX6_scaling_154 : decode cX6_scaling 154 = .ok (.istore 11, 2) := by decide +kernel
theorem dX6_scaling_156 : decode cX6_scaling 156 = .ok (.iload 11, 2) := by decide +kernel
theorem dX6_scaling_158 : decode cX6_scaling 158 = .ok (.aload_n 0, 1) := by decide +kernel
theorem dX6_scaling_159 : decode cX6_scaling 159 = .ok (.getfield 9, 3) := by decide +kernel
theorem dX6_scaling_162 : decode cX6_scaling 162 = .ok (.bipush 7, 2) := by decide +kernel
theorem dX6_scaling_164 : decode cX6_scaling 164 = .ok (.iaload, 1) := by decide +kernel
theorem dX6_scaling_165 : decode cX6_scaling 165 = .ok (.if_icmp .ge 77, 3) := by decide +kernel
theorem dX6_scaling_168 : decode cX6_scaling 168 = .ok (.aload_n 0, 1) := by decide +kernel
theorem dX6_scaling_169 : decode cX6_scaling 169 = .ok (.iload 11, 2) := by decide +kernel
theorem dX6_scaling_171 : decode cX6_scaling 171 = .ok (.iload_n 1, 1) := by decide +kernel
theorem dX6_scaling_172 : decode cX6_scaling 172 = .ok (.iload_n 2, 1) := by decide +kernel
theorem dX6_scaling_173 : decode cX6_scaling 173 = .ok (.invokevirtual 196, 3) := by decide +kernel
theorem dX6_scaling_176 : decode cX6_scaling 176 = .ok (.ifCond .ne 6, 3) := by decide +kernel
theorem dX6_scaling_179 : decode cX6_scaling 179 = .ok (.goto 57, 3) := by decide +kernel
theorem dX6_scaling_182 : decode cX6_scaling 182 = .ok (.iload 11, 2) := by decide +kernel
theorem dX6_scaling_184 : decode cX6_scaling 184 = .ok (.iload 8, 2) := by decide +kernel
theorem dX6_scaling_186 : decode cX6_scaling 186 = .ok (.if_icmp .ge 18, 3) := by decide +kernel
theorem dX6_scaling_189 : decode cX6_scaling 189 = .ok (.aload_n 0, 1) := by decide +kernel
theorem dX6_scaling_190 : decode cX6_scaling 190 = .ok (.iload 11, 2) := by decide +kernel
theorem dX6_scaling_192 : decode cX6_scaling 192 = .ok (.iload_n 1, 1) := by decide +kernel
theorem dX6_scaling_193 : decode cX6_scaling 193 = .ok (.invokevirtual 117, 3) := by decide +kernel
theorem dX6_scaling_196 : decode cX6_scaling 196 = .ok (.iload 9, 2) := by decide +kernel
theorem dX6_scaling_198 : decode cX6_scaling 198 = .ok (.if_icmp .ne 6, 3) := by decide +kernel
theorem dX6_scaling_201 : decode cX6_scaling 201 = .ok (.iconst 0, 1) := by decide +kernel
theorem dX6_scaling_202 : decode cX6_scaling 202 = .ok (.istore 10, 2) := by decide +kernel
theorem dX6_scaling_204 : decode cX6_scaling 204 = .ok (.aload_n 0, 1) := by decide +kernel
theorem dX6_scaling_205 : decode cX6_scaling 205 = .ok (.iload 8, 2) := by decide +kernel
theorem dX6_scaling_207 : decode cX6_scaling 207 = .ok (.iload_n 1, 1) := by decide +kernel
theorem dX6_scaling_208 : decode cX6_scaling 208 = .ok (.invokevirtual 100, 3) := by decide +kernel
theorem dX6_scaling_211 : decode cX6_scaling 211 = .ok (.aload_n 0, 1) := by decide +kernel
theorem dX6_scaling_212 : decode cX6_scaling 212 = .ok (.iload 11, 2) := by decide +kernel
theorem dX6_scaling_214 : decode cX6_scaling 214 = .ok (.iload_n 1, 1) := by decide +kernel
theorem dX6_scaling_215 : decode cX6_scaling 215 = .ok (.invokevirtual 100, 3) := by decide +kernel
theorem dX6_scaling_218 : decode cX6_scaling 218 = .ok (.if_icmp .le 18, 3) := by decide +kernel
theorem dX6_scaling_221 : decode cX6_scaling 221 = .ok (.iload 9, 2) := by decide +kernel
theorem dX6_scaling_223 : decode cX6_scaling 223 = .ok (.aload_n 0, 1) := by decide +kernel
theorem dX6_scaling_224 : decode cX6_scaling 224 = .ok (.iload 11, 2) := by decide +kernel
theorem dX6_scaling_226 : decode cX6_scaling 226 = .ok (.iload_n 1, 1) := by decide +kernel
theorem dX6_scaling_227 : decode cX6_scaling 227 = .ok (.invokevirtual 117, 3) := by decide +kernel
theorem dX6_scaling_230 : decode cX6_scaling 230 = .ok (.if_icmp .ge 6, 3) := by decide +kernel
theorem dX6_scaling_233 : decode cX6_scaling 233 = .ok (.iinc 6 1, 3) := by decide +kernel
theorem dX6_scaling_236 : decode cX6_scaling 236 = .ok (.iinc 11 1, 3) := by decide +kernel
theorem dX6_scaling_239 : decode cX6_scaling 239 = .ok (.goto (-83), 3) := by decide +kernel
theorem dX6_scaling_242 : decode cX6_scaling 242 = .ok (.iload 10, 2) := by decide +kernel
theorem dX6_scaling_244 : decode cX6_scaling 244 = .ok (.ifCond .eq 6, 3) := by decide +kernel
theorem dX6_scaling_247 : decode cX6_scaling 247 = .ok (.iinc 7 1, 3) := by decide +kernel
theorem dX6_scaling_250 : decode cX6_scaling 250 = .ok (.iinc 8 1, 3) := by decide +kernel
theorem dX6_scaling_253 : decode cX6_scaling 253 = .ok (.goto (-145), 3) := by decide +kernel
theorem dX6_scaling_256 : decode cX6_scaling 256 = .ok (.iload_n 3, 1) := by decide +kernel
theorem dX6_scaling_257 : decode cX6_scaling 257 = .ok (.iconst 4, 1) := by decide +kernel
theorem dX6_scaling_258 : decode cX6_scaling 258 = .ok (.if_icmp .ne 13, 3) := by decide +kernel
theorem dX6_scaling_261 : decode cX6_scaling 261 = .ok (.iload 5, 2) := by decide +kernel
theorem dX6_scaling_263 : decode cX6_scaling 263 = .ok (.iload 4, 2) := by decide +kernel
theorem dX6_scaling_265 : decode cX6_scaling 265 = .ok (.invokestatic 94, 3) := by decide +kernel
theorem dX6_scaling_268 : decode cX6_scaling 268 = .ok (.goto 15, 3) := by decide +kernel
theorem dX6_scaling_271 : decode cX6_scaling 271 = .ok (.iload_n 3, 1) := by decide +kernel
theorem dX6_scaling_272 : decode cX6_scaling 272 = .ok (.iconst 5, 1) := by decide +kernel
theorem dX6_scaling_273 : decode cX6_scaling 273 = .ok (.if_icmp .ne 8, 3) := by decide +kernel
theorem dX6_scaling_276 : decode cX6_scaling 276 = .ok (.iload 6, 2) := by decide +kernel
theorem dX6_scaling_278 : decode cX6_scaling 278 = .ok (.goto 5, 3) := by decide +kernel
theorem dX6_scaling_281 : decode cX6_scaling 281 = .ok (.iload 7, 2) := by decide +kernel
theorem dX6_scaling_283 : decode cX6_scaling 283 = .ok (.ireturn, 1) := by decide +kernel
theorem dX6_scaled_0 : decode cX6_scaled 0 = .ok (.aload_n 0, 1) := by decide +kernel
theorem dX6_scaled_1 : decode cX6_scaled 1 = .ok (.iload_n 1, 1) := by decide +kernel
theorem dX6_scaled_2 : decode cX6_scaled 2 = .ok (.iload_n 2, 1) := by decide +kernel
theorem dX6_scaled_3 : decode cX6_scaled 3 = .ok (.invokevirtual 190, 3) := by decide +kernel
theorem dX6_scaled_6 : decode cX6_scaled 6 = .ok (.ifCond .ne 5, 3) := by decide +kernel
theorem dX6_scaled_9 : decode cX6_scaled 9 = .ok (.iconst (-1), 1) := by decide +kernel
theorem dX6_scaled_10 : decode cX6_scaled 10 = .ok (.ireturn, 1) := by decide +kernel
theorem dX6_scaled_11 : decode cX6_scaled 11 = .ok (.iload_n 3, 1) := by decide +kernel
theorem dX6_scaled_12 : decode cX6_scaled 12 = .ok (.iconst 0, 1) := by decide +kernel
theorem dX6_scaled_13 : decode cX6_scaled 13 = .ok (.bipush 100, 2) := by decide +kernel
theorem dX6_scaled_15 : decode cX6_scaled 15 = .ok (.invokestatic 66, 3) := by decide +kernel
theorem dX6_scaled_18 : decode cX6_scaled 18 = .ok (.ifCond .eq 13, 3) := by decide +kernel
theorem dX6_scaled_21 : decode cX6_scaled 21 = .ok (.aload_n 0, 1) := by decide +kernel
theorem dX6_scaled_22 : decode cX6_scaled 22 = .ok (.iload_n 1, 1) := by decide +kernel
theorem dX6_scaled_23 : decode cX6_scaled 23 = .ok (.iload_n 2, 1) := by decide +kernel
theorem dX6_scaled_24 : decode cX6_scaled 24 = .ok (.iload_n 3, 1) := by decide +kernel
theorem dX6_scaled_25 : decode cX6_scaled 25 = .ok (.invokevirtual 113, 3) := by decide +kernel
theorem dX6_scaled_28 : decode cX6_scaled 28 = .ok (.goto 5, 3) := by decide +kernel
theorem dX6_scaled_31 : decode cX6_scaled 31 = .ok (.bipush (-2), 2) := by decide +kernel
theorem dX6_scaled_33 : decode cX6_scaled 33 = .ok (.ireturn, 1) := by decide +kernel
theorem dX6_module_0 : decode cX6_module 0 = .ok (.aload_n 0, 1) := by decide +kernel
theorem dX6_module_1 : decode cX6_module 1 = .ok (.iload_n 1, 1) := by decide +kernel
theorem dX6_module_2 : decode cX6_module 2 = .ok (.invokevirtual 168, 3) := by decide +kernel
theorem dX6_module_5 : decode cX6_module 5 = .ok (.ifCond .eq 11, 3) := by decide +kernel
theorem dX6_module_8 : decode cX6_module 8 = .ok (.aload_n 0, 1) := by decide +kernel
theorem dX6_module_9 : decode cX6_module 9 = .ok (.iload_n 2, 1) := by decide +kernel
theorem dX6_module_10 : decode cX6_module 10 = .ok (.invokevirtual 77, 3) := by decide +kernel
theorem dX6_module_13 : decode cX6_module 13 = .ok (.ifCond .ne 5, 3) := by decide +kernel
theorem dX6_module_16 : decode cX6_module 16 = .ok (.iconst (-1), 1) := by decide +kernel
theorem dX6_module_17 : decode cX6_module 17 = .ok (.ireturn, 1) := by decide +kernel
theorem dX6_module_18 : decode cX6_module 18 = .ok (.iload_n 3, 1) := by decide +kernel
theorem dX6_module_19 : decode cX6_module 19 = .ok (.iconst 0, 1) := by decide +kernel
theorem dX6_module_20 : decode cX6_module 20 = .ok (.iconst 4, 1) := by decide +kernel
theorem dX6_module_21 : decode cX6_module 21 = .ok (.invokestatic 66, 3) := by decide +kernel
theorem dX6_module_24 : decode cX6_module 24 = .ok (.ifCond .ne 6, 3) := by decide +kernel
theorem dX6_module_27 : decode cX6_module 27 = .ok (.bipush (-2), 2) := by decide +kernel
theorem dX6_module_29 : decode cX6_module 29 = .ok (.ireturn, 1) := by decide +kernel
theorem dX6_module_30 : decode cX6_module 30 = .ok (.aload_n 0, 1) := by decide +kernel
theorem dX6_module_31 : decode cX6_module 31 = .ok (.iload_n 1, 1) := by decide +kernel
theorem dX6_module_32 : decode cX6_module 32 = .ok (.iconst (-1), 1) := by decide +kernel
theorem dX6_module_33 : decode cX6_module 33 = .ok (.iconst 0, 1) := by decide +kernel
theorem dX6_module_34 : decode cX6_module 34 = .ok (.invokevirtual 90, 3) := by decide +kernel
theorem dX6_module_37 : decode cX6_module 37 = .ok (.iload_n 3, 1) := by decide +kernel
theorem dX6_module_38 : decode cX6_module 38 = .ok (.ifCond .ne 24, 3) := by decide +kernel
theorem dX6_module_41 : decode cX6_module 41 = .ok (.aload_n 0, 1) := by decide +kernel
theorem dX6_module_42 : decode cX6_module 42 = .ok (.getfield 34, 3) := by decide +kernel
theorem dX6_module_45 : decode cX6_module 45 = .ok (.iload_n 2, 1) := by decide +kernel
theorem dX6_module_46 : decode cX6_module 46 = .ok (.iaload, 1) := by decide +kernel
theorem dX6_module_47 : decode cX6_module 47 = .ok (.ifCond .ge 8, 3) := by decide +kernel
theorem dX6_module_50 : decode cX6_module 50 = .ok (.bipush (-5), 2) := by decide +kernel
theorem dX6_module_52 : decode cX6_module 52 = .ok (.goto 9, 3) := by decide +kernel
theorem dX6_module_55 : decode cX6_module 55 = .ok (.aload_n 0, 1) := by decide +kernel
theorem dX6_module_56 : decode cX6_module 56 = .ok (.getfield 34, 3) := by decide +kernel
theorem dX6_module_59 : decode cX6_module 59 = .ok (.iload_n 2, 1) := by decide +kernel
theorem dX6_module_60 : decode cX6_module 60 = .ok (.iaload, 1) := by decide +kernel
theorem dX6_module_61 : decode cX6_module 61 = .ok (.ireturn, 1) := by decide +kernel
theorem dX6_module_62 : decode cX6_module 62 = .ok (.iload_n 3, 1) := by decide +kernel
theorem dX6_module_63 : decode cX6_module 63 = .ok (.iconst 1, 1) := by decide +kernel
theorem dX6_module_64 : decode cX6_module 64 = .ok (.if_icmp .ne 18, 3) := by decide +kernel
theorem dX6_module_67 : decode cX6_module 67 = .ok (.aload_n 0, 1) := by decide +kernel
theorem dX6_module_68 : decode cX6_module 68 = .ok (.getfield 37, 3) := by decide +kernel
theorem dX6_module_71 : decode cX6_module 71 = .ok (.iload_n 2, 1) := by decide +kernel
theorem dX6_module_72 : decode cX6_module 72 = .ok (.baload, 1) := by decide +kernel
theorem dX6_module_73 : decode cX6_module 73 = .ok (.ifCond .eq 7, 3) := by decide +kernel
theorem dX6_module_76 : decode cX6_module 76 = .ok (.iconst 1, 1) := by decide +kernel
theorem dX6_module_77 : decode cX6_module 77 = .ok (.goto 4, 3) := by decide +kernel
theorem dX6_module_80 : decode cX6_module 80 = .ok (.iconst 0, 1) := by decide +kernel
theorem dX6_module_81 : decode cX6_module 81 = .ok (.ireturn, 1) := by decide +kernel
theorem dX6_module_82 : decode cX6_module 82 = .ok (.iconst 0, 1) := by decide +kernel
theorem dX6_module_83 : decode cX6_module 83 = .ok (.istore 4, 2) := by decide +kernel
theorem dX6_module_85 : decode cX6_module 85 = .ok (.iconst 0, 1) := by decide +kernel
theorem dX6_module_86 : decode cX6_module 86 = .ok (.istore 5, 2) := by decide +kernel
theorem dX6_module_88 : decode cX6_module 88 = .ok (.iload 5, 2) := by decide +kernel
theorem dX6_module_90 : decode cX6_module 90 = .ok (.aload_n 0, 1) := by decide +kernel
theorem dX6_module_91 : decode cX6_module 91 = .ok (.getfield 9, 3) := by decide +kernel
theorem dX6_module_94 : decode cX6_module 94 = .ok (.bipush 6, 2) := by decide +kernel
theorem dX6_module_96 : decode cX6_module 96 = .ok (.iaload, 1) := by decide +kernel
theorem dX6_module_97 : decode cX6_module 97 = .ok (.if_icmp .ge 62, 3) := by decide +kernel
theorem dX6_module_100 : decode cX6_module 100 = .ok (.aload_n 0, 1) := by decide +kernel
theorem dX6_module_101 : decode cX6_module 101 = .ok (.iload 5, 2) := by decide +kernel
theorem dX6_module_103 : decode cX6_module 103 = .ok (.iconst 0, 1) := by decide +kernel
theorem dX6_module_104 : decode cX6_module 104 = .ok (.invokevirtual 87, 3) := by decide +kernel
theorem dX6_module_107 : decode cX6_module 107 = .ok (.iload_n 2, 1) := by decide +kernel
theorem dX6_module_108 : decode cX6_module 108 = .ok (.if_icmp .eq 6, 3) := by decide +kernel
theorem dX6_module_111 : decode cX6_module 111 = .ok (.goto 42, 3) := by decide +kernel
theorem dX6_module_114 : decode cX6_module 114 = .ok (.iload_n 3, 1) := by decide +kernel
theorem dX6_module_115 : decode cX6_module 115 = .ok (.iconst 4, 1) := by decide +kernel
theorem dX6_module_116 : decode cX6_module 116 = .ok (.if_icmp .eq 34, 3) := by decide +kernel
theorem dX6_module_119 : decode cX6_module 119 = .ok (.iload_n 3, 1) := by decide +kernel
theorem dX6_module_120 : decode cX6_module 120 = .ok (.iconst 2, 1) := by decide +kernel
theorem dX6_module_121 : decode cX6_module 121 = .ok (.if_icmp .ne 13, 3) := by decide +kernel
theorem dX6_module_124 : decode cX6_module 124 = .ok (.aload_n 0, 1) := by decide +kernel
theorem dX6_module_125 : decode cX6_module 125 = .ok (.getfield 28, 3) := by decide +kernel
theorem dX6_module_128 : decode cX6_module 128 = .ok (.iload 5, 2) := by decide +kernel
theorem dX6_module_130 : decode cX6_module 130 = .ok (.iaload, 1) := by decide +kernel
theorem dX6_module_131 : decode cX6_module 131 = .ok (.ifCond .ge 19, 3) := by decide +kernel
theorem dX6_module_134 : decode cX6_module 134 = .ok (.iload_n 3, 1) := by decide +kernel
theorem dX6_module_135 : decode cX6_module 135 = .ok (.iconst 3, 1) := by decide +kernel
theorem dX6_module_136 : decode cX6_module 136 = .ok (.if_icmp .ne 17, 3) := by decide +kernel
theorem dX6_module_139 : decode cX6_module 139 = .ok (.aload_n 0, 1) := by decide +kernel
theorem dX6_module_140 : decode cX6_module 140 = .ok (.getfield 31, 3) := by decide +kernel
theorem dX6_module_143 : decode cX6_module 143 = .ok (.iload 5, 2) := by decide +kernel
theorem dX6_module_145 : decode cX6_module 145 = .ok (.iaload, 1) := by decide +kernel
theorem dX6_module_146 : decode cX6_module 146 = .ok (.iconst 2, 1) := by decide +kernel
theorem dX6_module_147 : decode cX6_module 147 = .ok (.if_icmp .ne 6, 3) := by decide +kernel
theorem dX6_module_150 : decode cX6_module 150 = .ok (.iinc 4 1, 3) := by decide +kernel
theorem dX6_module_153 : decode cX6_module 153 = .ok (.iinc 5 1, 3) := by decide +kernel
theorem dX6_module_156 : decode cX6_module 156 = .ok (.goto (-68), 3) := by decide +kernel
theorem dX6_module_159 : decode cX6_module 159 = .ok (.iload 4, 2) := by decide +kernel
theorem dX6_module_161 : decode cX6_module 161 = .ok (.ireturn, 1) := by decide +kernel
theorem dX6_student_0 : decode cX6_student 0 = .ok (.aload_n 0, 1) := by decide +kernel
theorem dX6_student_1 : decode cX6_student 1 = .ok (.iload_n 1, 1) := by decide +kernel
theorem dX6_student_2 : decode cX6_student 2 = .ok (.invokevirtual 168, 3) := by decide +kernel
theorem dX6_student_5 : decode cX6_student 5 = .ok (.ifCond .ne 5, 3) := by decide +kernel
theorem dX6_student_8 : decode cX6_student 8 = .ok (.iconst (-1), 1) := by decide +kernel
theorem dX6_student_9 : decode cX6_student 9 = .ok (.ireturn, 1) := by decide +kernel
theorem dX6_student_10 : decode cX6_student 10 = .ok (.iload_n 2, 1) := by decide +kernel
theorem dX6_student_11 : decode cX6_student 11 = .ok (.iconst 0, 1) := by decide +kernel
theorem dX6_student_12 : decode cX6_student 12 = .ok (.bipush 8, 2) := by decide +kernel
theorem dX6_student_14 : decode cX6_student 14 = .ok (.invokestatic 66, 3) := by decide +kernel
theorem dX6_student_17 : decode cX6_student 17 = .ok (.ifCond .ne 6, 3) := by decide +kernel
theorem dX6_student_20 : decode cX6_student 20 = .ok (.bipush (-2), 2) := by decide +kernel
theorem dX6_student_22 : decode cX6_student 22 = .ok (.ireturn, 1) := by decide +kernel
theorem dX6_student_23 : decode cX6_student 23 = .ok (.iconst 0, 1) := by decide +kernel
theorem dX6_student_24 : decode cX6_student 24 = .ok (.istore_n 3, 1) := by decide +kernel
theorem dX6_student_25 : decode cX6_student 25 = .ok (.iload_n 2, 1) := by decide +kernel
theorem dX6_student_26 : decode cX6_student 26 = .ok (.bipush 6, 2) := by decide +kernel
theorem dX6_student_28 : decode cX6_student 28 = .ok (.if_icmp .ne 25, 3) := by decide +kernel
theorem dX6_student_31 : decode cX6_student 31 = .ok (.aload_n 0, 1) := by decide +kernel
theorem dX6_student_32 : decode cX6_student 32 = .ok (.invokevirtual 199, 3) := by decide +kernel
theorem dX6_student_35 : decode cX6_student 35 = .ok (.aload_n 0, 1) := by decide +kernel
theorem dX6_student_36 : decode cX6_student 36 = .ok (.getfield 41, 3) := by decide +kernel
theorem dX6_student_39 : decode cX6_student 39 = .ok (.iload_n 3, 1) := by decide +kernel
theorem dX6_student_40 : decode cX6_student 40 = .ok (.iaload, 1) := by decide +kernel
theorem dX6_student_41 : decode cX6_student 41 = .ok (.iload_n 1, 1) := by decide +kernel
theorem dX6_student_42 : decode cX6_student 42 = .ok (.if_icmp .eq 9, 3) := by decide +kernel
theorem dX6_student_45 : decode cX6_student 45 = .ok (.iinc 3 1, 3) := by decide +kernel
theorem dX6_student_48 : decode cX6_student 48 = .ok (.goto (-13), 3) := by decide +kernel
theorem dX6_student_51 : decode cX6_student 51 = .ok (.iload_n 3, 1) := by decide +kernel
theorem dX6_student_52 : decode cX6_student 52 = .ok (.ireturn, 1) := by decide +kernel
theorem dX6_student_53 : decode cX6_student 53 = .ok (.aload_n 0, 1) := by decide +kernel
theorem dX6_student_54 : decode cX6_student 54 = .ok (.iload_n 1, 1) := by decide +kernel
theorem dX6_student_55 : decode cX6_student 55 = .ok (.iconst (-1), 1) := by decide +kernel
theorem dX6_student_56 : decode cX6_student 56 = .ok (.iconst 0, 1) := by decide +kernel
theorem dX6_student_57 : decode cX6_student 57 = .ok (.invokevirtual 90, 3) := by decide +kernel
theorem dX6_student_60 : decode cX6_student 60 = .ok (.iload_n 2, 1) := by decide +kernel
theorem dX6_student_61 : decode cX6_student 61 = .ok (.tableswitch 86 0 5 #[39, 49, 66, 71, 76, 81], 39) := by decide +kernel
theorem dX6_student_100 : decode cX6_student 100 = .ok (.aload_n 0, 1) := by decide +kernel
theorem dX6_student_101 : decode cX6_student 101 = .ok (.getfield 9, 3) := by decide +kernel
theorem dX6_student_104 : decode cX6_student 104 = .ok (.bipush 37, 2) := by decide +kernel
theorem dX6_student_106 : decode cX6_student 106 = .ok (.iload_n 1, 1) := by decide +kernel
theorem dX6_student_107 : decode cX6_student 107 = .ok (.iadd, 1) := by decide +kernel
theorem dX6_student_108 : decode cX6_student 108 = .ok (.iaload, 1) := by decide +kernel
theorem dX6_student_109 : decode cX6_student 109 = .ok (.ireturn, 1) := by decide +kernel
theorem dX6_student_110 : decode cX6_student 110 = .ok (.aload_n 0, 1) := by decide +kernel
theorem dX6_student_111 : decode cX6_student 111 = .ok (.getfield 150, 3) := by decide +kernel
theorem dX6_student_114 : decode cX6_student 114 = .ok (.ifCond .ge 8, 3) := by decide +kernel
theorem dX6_student_117 : decode cX6_student 117 = .ok (.bipush (-5), 2) := by decide +kernel
theorem dX6_student_119 : decode cX6_student 119 = .ok (.goto 7, 3) := by decide +kernel
theorem dX6_student_122 : decode cX6_student 122 = .ok (.aload_n 0, 1) := by decide +kernel
theorem dX6_student_123 : decode cX6_student 123 = .ok (.getfield 150, 3) := by decide +kernel
theorem dX6_student_126 : decode cX6_student 126 = .ok (.ireturn, 1) := by decide +kernel
theorem dX6_student_127 : decode cX6_student 127 = .ok (.aload_n 0, 1) := by decide +kernel
theorem dX6_student_128 : decode cX6_student 128 = .ok (.getfield 134, 3) := by decide +kernel
theorem dX6_student_131 : decode cX6_student 131 = .ok (.ireturn, 1) := by decide +kernel
theorem dX6_student_132 : decode cX6_student 132 = .ok (.aload_n 0, 1) := by decide +kernel
theorem dX6_student_133 : decode cX6_student 133 = .ok (.invokevirtual 202, 3) := by decide +kernel
theorem dX6_student_136 : decode cX6_student 136 = .ok (.ireturn, 1) := by decide +kernel
theorem dX6_student_137 : decode cX6_student 137 = .ok (.aload_n 0, 1) := by decide +kernel
theorem dX6_student_138 : decode cX6_student 138 = .ok (.getfield 123, 3) := by decide +kernel
theorem dX6_student_141 : decode cX6_student 141 = .ok (.ireturn, 1) := by decide +kernel
theorem dX6_student_142 : decode cX6_student 142 = .ok (.aload_n 0, 1) := by decide +kernel
theorem dX6_student_143 : decode cX6_student 143 = .ok (.getfield 126, 3) := by decide +kernel
theorem dX6_student_146 : decode cX6_student 146 = .ok (.ireturn, 1) := by decide +kernel
theorem dX6_student_147 : decode cX6_student 147 = .ok (.iconst 0, 1) := by decide +kernel
theorem dX6_student_148 : decode cX6_student 148 = .ok (.istore 4, 2) := by decide +kernel
theorem dX6_student_150 : decode cX6_student 150 = .ok (.iload 4, 2) := by decide +kernel
theorem dX6_student_152 : decode cX6_student 152 = .ok (.aload_n 0, 1) := by decide +kernel
theorem dX6_student_153 : decode cX6_student 153 = .ok (.getfield 9, 3) := by decide +kernel
theorem dX6_student_156 : decode cX6_student 156 = .ok (.bipush 6, 2) := by decide +kernel
theorem dX6_student_158 : decode cX6_student 158 = .ok (.iaload, 1) := by decide +kernel
theorem dX6_student_159 : decode cX6_student 159 = .ok (.if_icmp .ge 47, 3) := by decide +kernel
theorem dX6_student_162 : decode cX6_student 162 = .ok (.iload_n 2, 1) := by decide +kernel
theorem dX6_student_163 : decode cX6_student 163 = .ok (.bipush 7, 2) := by decide +kernel
theorem dX6_student_165 : decode cX6_student 165 = .ok (.if_icmp .ne 16, 3) := by decide +kernel
theorem dX6_student_168 : decode cX6_student 168 = .ok (.aload_n 0, 1) := by decide +kernel
theorem dX6_student_169 : decode cX6_student 169 = .ok (.getfield 28, 3) := by decide +kernel
theorem dX6_student_172 : decode cX6_student 172 = .ok (.iload 4, 2) := by decide +kernel
theorem dX6_student_174 : decode cX6_student 174 = .ok (.iaload, 1) := by decide +kernel
theorem dX6_student_175 : decode cX6_student 175 = .ok (.ifCond .lt 25, 3) := by decide +kernel
theorem dX6_student_178 : decode cX6_student 178 = .ok (.goto 19, 3) := by decide +kernel
theorem dX6_student_181 : decode cX6_student 181 = .ok (.aload_n 0, 1) := by decide +kernel
theorem dX6_student_182 : decode cX6_student 182 = .ok (.getfield 9, 3) := by decide +kernel
theorem dX6_student_185 : decode cX6_student 185 = .ok (.iload_n 1, 1) := by decide +kernel
theorem dX6_student_186 : decode cX6_student 186 = .ok (.iload 4, 2) := by decide +kernel
theorem dX6_student_188 : decode cX6_student 188 = .ok (.invokestatic 81, 3) := by decide +kernel
theorem dX6_student_191 : decode cX6_student 191 = .ok (.iconst 2, 1) := by decide +kernel
theorem dX6_student_192 : decode cX6_student 192 = .ok (.iadd, 1) := by decide +kernel
theorem dX6_student_193 : decode cX6_student 193 = .ok (.iaload, 1) := by decide +kernel
theorem dX6_student_194 : decode cX6_student 194 = .ok (.ifCond .lt 6, 3) := by decide +kernel
theorem dX6_student_197 : decode cX6_student 197 = .ok (.iinc 3 1, 3) := by decide +kernel
theorem dX6_student_200 : decode cX6_student 200 = .ok (.iinc 4 1, 3) := by decide +kernel
theorem dX6_student_203 : decode cX6_student 203 = .ok (.goto (-53), 3) := by decide +kernel
theorem dX6_student_206 : decode cX6_student 206 = .ok (.iload_n 3, 1) := by decide +kernel
theorem dX6_student_207 : decode cX6_student 207 = .ok (.ireturn, 1) := by decide +kernel
theorem dX6_passedCredits_0 : decode cX6_passedCredits 0 = .ok (.iconst 0, 1) := by decide +kernel
theorem dX6_passedCredits_1 : decode cX6_passedCredits 1 = .ok (.istore_n 1, 1) := by decide +kernel
theorem dX6_passedCredits_2 : decode cX6_passedCredits 2 = .ok (.iconst 0, 1) := by decide +kernel
theorem dX6_passedCredits_3 : decode cX6_passedCredits 3 = .ok (.istore_n 2, 1) := by decide +kernel
theorem dX6_passedCredits_4 : decode cX6_passedCredits 4 = .ok (.iload_n 2, 1) := by decide +kernel
theorem dX6_passedCredits_5 : decode cX6_passedCredits 5 = .ok (.aload_n 0, 1) := by decide +kernel
theorem dX6_passedCredits_6 : decode cX6_passedCredits 6 = .ok (.getfield 9, 3) := by decide +kernel
theorem dX6_passedCredits_9 : decode cX6_passedCredits 9 = .ok (.iconst 5, 1) := by decide +kernel
theorem dX6_passedCredits_10 : decode cX6_passedCredits 10 = .ok (.iaload, 1) := by decide +kernel
theorem dX6_passedCredits_11 : decode cX6_passedCredits 11 = .ok (.if_icmp .ge 26, 3) := by decide +kernel
theorem dX6_passedCredits_14 : decode cX6_passedCredits 14 = .ok (.aload_n 0, 1) := by decide +kernel
theorem dX6_passedCredits_15 : decode cX6_passedCredits 15 = .ok (.getfield 37, 3) := by decide +kernel
theorem dX6_passedCredits_18 : decode cX6_passedCredits 18 = .ok (.iload_n 2, 1) := by decide +kernel
theorem dX6_passedCredits_19 : decode cX6_passedCredits 19 = .ok (.baload, 1) := by decide +kernel
theorem dX6_passedCredits_20 : decode cX6_passedCredits 20 = .ok (.ifCond .eq 11, 3) := by decide +kernel
theorem dX6_passedCredits_23 : decode cX6_passedCredits 23 = .ok (.iload_n 1, 1) := by decide +kernel
theorem dX6_passedCredits_24 : decode cX6_passedCredits 24 = .ok (.aload_n 0, 1) := by decide +kernel
theorem dX6_passedCredits_25 : decode cX6_passedCredits 25 = .ok (.iload_n 2, 1) := by decide +kernel
theorem dX6_passedCredits_26 : decode cX6_passedCredits 26 = .ok (.invokevirtual 146, 3) := by decide +kernel
theorem dX6_passedCredits_29 : decode cX6_passedCredits 29 = .ok (.iadd, 1) := by decide +kernel
theorem dX6_passedCredits_30 : decode cX6_passedCredits 30 = .ok (.istore_n 1, 1) := by decide +kernel
theorem dX6_passedCredits_31 : decode cX6_passedCredits 31 = .ok (.iinc 2 1, 3) := by decide +kernel
theorem dX6_passedCredits_34 : decode cX6_passedCredits 34 = .ok (.goto (-30), 3) := by decide +kernel
theorem dX6_passedCredits_37 : decode cX6_passedCredits 37 = .ok (.iload_n 1, 1) := by decide +kernel
theorem dX6_passedCredits_38 : decode cX6_passedCredits 38 = .ok (.ireturn, 1) := by decide +kernel
theorem dX6_again__0 : decode cX6_again_ 0 = .ok (.aload_n 0, 1) := by decide +kernel
theorem dX6_again__1 : decode cX6_again_ 1 = .ok (.iload_n 1, 1) := by decide +kernel
theorem dX6_again__2 : decode cX6_again_ 2 = .ok (.invokevirtual 168, 3) := by decide +kernel
theorem dX6_again__5 : decode cX6_again_ 5 = .ok (.ifCond .ne 5, 3) := by decide +kernel
theorem dX6_again__8 : decode cX6_again_ 8 = .ok (.iconst (-1), 1) := by decide +kernel
theorem dX6_again__9 : decode cX6_again_ 9 = .ok (.ireturn, 1) := by decide +kernel
theorem dX6_again__10 : decode cX6_again_ 10 = .ok (.aload_n 0, 1) := by decide +kernel
theorem dX6_again__11 : decode cX6_again_ 11 = .ok (.iload_n 1, 1) := by decide +kernel
theorem dX6_again__12 : decode cX6_again_ 12 = .ok (.iconst (-1), 1) := by decide +kernel
theorem dX6_again__13 : decode cX6_again_ 13 = .ok (.iconst 0, 1) := by decide +kernel
theorem dX6_again__14 : decode cX6_again_ 14 = .ok (.invokevirtual 90, 3) := by decide +kernel
theorem dX6_again__17 : decode cX6_again_ 17 = .ok (.aload_n 0, 1) := by decide +kernel
theorem dX6_again__18 : decode cX6_again_ 18 = .ok (.getfield 134, 3) := by decide +kernel
theorem dX6_again__21 : decode cX6_again_ 21 = .ok (.ireturn, 1) := by decide +kernel
theorem dX6_why_0 : decode cX6_why 0 = .ok (.aload_n 0, 1) := by decide +kernel
theorem dX6_why_1 : decode cX6_why 1 = .ok (.iload_n 1, 1) := by decide +kernel
theorem dX6_why_2 : decode cX6_why 2 = .ok (.invokevirtual 168, 3) := by decide +kernel
theorem dX6_why_5 : decode cX6_why 5 = .ok (.ifCond .ne 5, 3) := by decide +kernel
theorem dX6_why_8 : decode cX6_why 8 = .ok (.iconst (-1), 1) := by decide +kernel
theorem dX6_why_9 : decode cX6_why 9 = .ok (.ireturn, 1) := by decide +kernel
theorem dX6_why_10 : decode cX6_why 10 = .ok (.iload_n 2, 1) := by decide +kernel
theorem dX6_why_11 : decode cX6_why 11 = .ok (.iconst 0, 1) := by decide +kernel
theorem dX6_why_12 : decode cX6_why 12 = .ok (.iconst 1, 1) := by decide +kernel
theorem dX6_why_13 : decode cX6_why 13 = .ok (.invokestatic 66, 3) := by decide +kernel
theorem dX6_why_16 : decode cX6_why 16 = .ok (.ifCond .ne 6, 3) := by decide +kernel
theorem dX6_why_19 : decode cX6_why 19 = .ok (.bipush (-2), 2) := by decide +kernel
theorem dX6_why_21 : decode cX6_why 21 = .ok (.ireturn, 1) := by decide +kernel
theorem dX6_why_22 : decode cX6_why 22 = .ok (.aload_n 0, 1) := by decide +kernel
theorem dX6_why_23 : decode cX6_why 23 = .ok (.iload_n 1, 1) := by decide +kernel
theorem dX6_why_24 : decode cX6_why 24 = .ok (.iconst (-1), 1) := by decide +kernel
theorem dX6_why_25 : decode cX6_why 25 = .ok (.iconst 0, 1) := by decide +kernel
theorem dX6_why_26 : decode cX6_why 26 = .ok (.invokevirtual 90, 3) := by decide +kernel
theorem dX6_why_29 : decode cX6_why 29 = .ok (.iload_n 2, 1) := by decide +kernel
theorem dX6_why_30 : decode cX6_why 30 = .ok (.ifCond .ne 10, 3) := by decide +kernel
theorem dX6_why_33 : decode cX6_why 33 = .ok (.aload_n 0, 1) := by decide +kernel
theorem dX6_why_34 : decode cX6_why 34 = .ok (.getfield 137, 3) := by decide +kernel
theorem dX6_why_37 : decode cX6_why 37 = .ok (.goto 7, 3) := by decide +kernel
theorem dX6_why_40 : decode cX6_why 40 = .ok (.aload_n 0, 1) := by decide +kernel
theorem dX6_why_41 : decode cX6_why 41 = .ok (.getfield 140, 3) := by decide +kernel
theorem dX6_why_44 : decode cX6_why 44 = .ok (.ireturn, 1) := by decide +kernel
theorem dX6_ranked_0 : decode cX6_ranked 0 = .ok (.aload_n 0, 1) := by decide +kernel
theorem dX6_ranked_1 : decode cX6_ranked 1 = .ok (.iload_n 1, 1) := by decide +kernel
theorem dX6_ranked_2 : decode cX6_ranked 2 = .ok (.invokevirtual 168, 3) := by decide +kernel
theorem dX6_ranked_5 : decode cX6_ranked 5 = .ok (.ifCond .ne 5, 3) := by decide +kernel
theorem dX6_ranked_8 : decode cX6_ranked 8 = .ok (.iconst (-1), 1) := by decide +kernel
theorem dX6_ranked_9 : decode cX6_ranked 9 = .ok (.ireturn, 1) := by decide +kernel
theorem dX6_ranked_10 : decode cX6_ranked 10 = .ok (.aload_n 0, 1) := by decide +kernel
theorem dX6_ranked_11 : decode cX6_ranked 11 = .ok (.invokevirtual 199, 3) := by decide +kernel
theorem dX6_ranked_14 : decode cX6_ranked 14 = .ok (.aload_n 0, 1) := by decide +kernel
theorem dX6_ranked_15 : decode cX6_ranked 15 = .ok (.getfield 41, 3) := by decide +kernel
theorem dX6_ranked_18 : decode cX6_ranked 18 = .ok (.iload_n 1, 1) := by decide +kernel
theorem dX6_ranked_19 : decode cX6_ranked 19 = .ok (.iaload, 1) := by decide +kernel
theorem dX6_ranked_20 : decode cX6_ranked 20 = .ok (.ireturn, 1) := by decide +kernel
theorem dX6_ofClass_0 : decode cX6_ofClass 0 = .ok (.iload_n 1, 1) := by decide +kernel
theorem dX6_ofClass_1 : decode cX6_ofClass 1 = .ok (.iconst 0, 1) := by decide +kernel
theorem dX6_ofClass_2 : decode cX6_ofClass 2 = .ok (.iconst 5, 1) := by decide +kernel
theorem dX6_ofClass_3 : decode cX6_ofClass 3 = .ok (.invokestatic 66, 3) := by decide +kernel
theorem dX6_ofClass_6 : decode cX6_ofClass 6 = .ok (.ifCond .ne 5, 3) := by decide +kernel
theorem dX6_ofClass_9 : decode cX6_ofClass 9 = .ok (.iconst (-1), 1) := by decide +kernel
theorem dX6_ofClass_10 : decode cX6_ofClass 10 = .ok (.ireturn, 1) := by decide +kernel
theorem dX6_ofClass_11 : decode cX6_ofClass 11 = .ok (.iload_n 2, 1) := by decide +kernel
theorem dX6_ofClass_12 : decode cX6_ofClass 12 = .ok (.iconst 0, 1) := by decide +kernel
theorem dX6_ofClass_13 : decode cX6_ofClass 13 = .ok (.iconst 2, 1) := by decide +kernel
theorem dX6_ofClass_14 : decode cX6_ofClass 14 = .ok (.invokestatic 66, 3) := by decide +kernel
theorem dX6_ofClass_17 : decode cX6_ofClass 17 = .ok (.ifCond .ne 6, 3) := by decide +kernel
theorem dX6_ofClass_20 : decode cX6_ofClass 20 = .ok (.bipush (-2), 2) := by decide +kernel
theorem dX6_ofClass_22 : decode cX6_ofClass 22 = .ok (.ireturn, 1) := by decide +kernel
theorem dX6_ofClass_23 : decode cX6_ofClass 23 = .ok (.iconst 0, 1) := by decide +kernel
theorem dX6_ofClass_24 : decode cX6_ofClass 24 = .ok (.istore_n 3, 1) := by decide +kernel
theorem dX6_ofClass_25 : decode cX6_ofClass 25 = .ok (.iconst 0, 1) := by decide +kernel
theorem dX6_ofClass_26 : decode cX6_ofClass 26 = .ok (.istore 4, 2) := by decide +kernel
theorem dX6_ofClass_28 : decode cX6_ofClass 28 = .ok (.iconst 0, 1) := by decide +kernel
theorem dX6_ofClass_29 : decode cX6_ofClass 29 = .ok (.istore 5, 2) := by decide +kernel
theorem dX6_ofClass_31 : decode cX6_ofClass 31 = .ok (.iconst 0, 1) := by decide +kernel
theorem dX6_ofClass_32 : decode cX6_ofClass 32 = .ok (.istore 6, 2) := by decide +kernel
theorem dX6_ofClass_34 : decode cX6_ofClass 34 = .ok (.iload 6, 2) := by decide +kernel
theorem dX6_ofClass_36 : decode cX6_ofClass 36 = .ok (.aload_n 0, 1) := by decide +kernel
theorem dX6_ofClass_37 : decode cX6_ofClass 37 = .ok (.getfield 9, 3) := by decide +kernel
theorem dX6_ofClass_40 : decode cX6_ofClass 40 = .ok (.bipush 7, 2) := by decide +kernel
theorem dX6_ofClass_42 : decode cX6_ofClass 42 = .ok (.iaload, 1) := by decide +kernel
theorem dX6_ofClass_43 : decode cX6_ofClass 43 = .ok (.if_icmp .ge 51, 3) := by decide +kernel
theorem dX6_ofClass_46 : decode cX6_ofClass 46 = .ok (.aload_n 0, 1) := by decide +kernel
theorem dX6_ofClass_47 : decode cX6_ofClass 47 = .ok (.iload 6, 2) := by decide +kernel
theorem dX6_ofClass_49 : decode cX6_ofClass 49 = .ok (.iconst (-1), 1) := by decide +kernel
theorem dX6_ofClass_50 : decode cX6_ofClass 50 = .ok (.iconst 0, 1) := by decide +kernel
theorem dX6_ofClass_51 : decode cX6_ofClass 51 = .ok (.invokevirtual 90, 3) := by decide +kernel
theorem dX6_ofClass_54 : decode cX6_ofClass 54 = .ok (.aload_n 0, 1) := by decide +kernel
theorem dX6_ofClass_55 : decode cX6_ofClass 55 = .ok (.getfield 134, 3) := by decide +kernel
theorem dX6_ofClass_58 : decode cX6_ofClass 58 = .ok (.iload_n 1, 1) := by decide +kernel
theorem dX6_ofClass_59 : decode cX6_ofClass 59 = .ok (.if_icmp .eq 6, 3) := by decide +kernel
theorem dX6_ofClass_62 : decode cX6_ofClass 62 = .ok (.goto 26, 3) := by decide +kernel
theorem dX6_ofClass_65 : decode cX6_ofClass 65 = .ok (.iinc 3 1, 3) := by decide +kernel
theorem dX6_ofClass_68 : decode cX6_ofClass 68 = .ok (.aload_n 0, 1) := by decide +kernel
theorem dX6_ofClass_69 : decode cX6_ofClass 69 = .ok (.getfield 137, 3) := by decide +kernel
theorem dX6_ofClass_72 : decode cX6_ofClass 72 = .ok (.iconst 3, 1) := by decide +kernel
theorem dX6_ofClass_73 : decode cX6_ofClass 73 = .ok (.if_icmp .ne 6, 3) := by decide +kernel
theorem dX6_ofClass_76 : decode cX6_ofClass 76 = .ok (.iinc 4 1, 3) := by decide +kernel
theorem dX6_ofClass_79 : decode cX6_ofClass 79 = .ok (.iload 5, 2) := by decide +kernel
theorem dX6_ofClass_81 : decode cX6_ofClass 81 = .ok (.aload_n 0, 1) := by decide +kernel
theorem dX6_ofClass_82 : decode cX6_ofClass 82 = .ok (.getfield 150, 3) := by decide +kernel
theorem dX6_ofClass_85 : decode cX6_ofClass 85 = .ok (.iadd, 1) := by decide +kernel
theorem dX6_ofClass_86 : decode cX6_ofClass 86 = .ok (.istore 5, 2) := by decide +kernel
theorem dX6_ofClass_88 : decode cX6_ofClass 88 = .ok (.iinc 6 1, 3) := by decide +kernel
theorem dX6_ofClass_91 : decode cX6_ofClass 91 = .ok (.goto (-57), 3) := by decide +kernel
theorem dX6_ofClass_94 : decode cX6_ofClass 94 = .ok (.iload_n 2, 1) := by decide +kernel
theorem dX6_ofClass_95 : decode cX6_ofClass 95 = .ok (.iconst 2, 1) := by decide +kernel
theorem dX6_ofClass_96 : decode cX6_ofClass 96 = .ok (.if_icmp .ge 14, 3) := by decide +kernel
theorem dX6_ofClass_99 : decode cX6_ofClass 99 = .ok (.iload_n 2, 1) := by decide +kernel
theorem dX6_ofClass_100 : decode cX6_ofClass 100 = .ok (.ifCond .ne 7, 3) := by decide +kernel
theorem dX6_ofClass_103 : decode cX6_ofClass 103 = .ok (.iload_n 3, 1) := by decide +kernel
theorem dX6_ofClass_104 : decode cX6_ofClass 104 = .ok (.goto 5, 3) := by decide +kernel
theorem dX6_ofClass_107 : decode cX6_ofClass 107 = .ok (.iload 4, 2) := by decide +kernel
theorem dX6_ofClass_109 : decode cX6_ofClass 109 = .ok (.ireturn, 1) := by decide +kernel
theorem dX6_ofClass_110 : decode cX6_ofClass 110 = .ok (.iload_n 3, 1) := by decide +kernel
theorem dX6_ofClass_111 : decode cX6_ofClass 111 = .ok (.ifCond .eq 7, 3) := by decide +kernel
theorem dX6_ofClass_114 : decode cX6_ofClass 114 = .ok (.iload_n 1, 1) := by decide +kernel
theorem dX6_ofClass_115 : decode cX6_ofClass 115 = .ok (.ifCond .ne 8, 3) := by decide +kernel
theorem dX6_ofClass_118 : decode cX6_ofClass 118 = .ok (.bipush (-5), 2) := by decide +kernel
theorem dX6_ofClass_120 : decode cX6_ofClass 120 = .ok (.goto 7, 3) := by decide +kernel
theorem dX6_ofClass_123 : decode cX6_ofClass 123 = .ok (.iload 5, 2) := by decide +kernel
theorem dX6_ofClass_125 : decode cX6_ofClass 125 = .ok (.iload_n 3, 1) := by decide +kernel
theorem dX6_ofClass_126 : decode cX6_ofClass 126 = .ok (.idiv, 1) := by decide +kernel
theorem dX6_ofClass_127 : decode cX6_ofClass 127 = .ok (.ireturn, 1) := by decide +kernel
theorem dX6_classIf_0 : decode cX6_classIf 0 = .ok (.aload_n 0, 1) := by decide +kernel
theorem dX6_classIf_1 : decode cX6_classIf 1 = .ok (.iload_n 1, 1) := by decide +kernel
theorem dX6_classIf_2 : decode cX6_classIf 2 = .ok (.invokevirtual 168, 3) := by decide +kernel
theorem dX6_classIf_5 : decode cX6_classIf 5 = .ok (.ifCond .eq 11, 3) := by decide +kernel
theorem dX6_classIf_8 : decode cX6_classIf 8 = .ok (.aload_n 0, 1) := by decide +kernel
theorem dX6_classIf_9 : decode cX6_classIf 9 = .ok (.iload_n 2, 1) := by decide +kernel
theorem dX6_classIf_10 : decode cX6_classIf 10 = .ok (.invokevirtual 84, 3) := by decide +kernel
theorem dX6_classIf_13 : decode cX6_classIf 13 = .ok (.ifCond .ne 5, 3) := by decide +kernel
theorem dX6_classIf_16 : decode cX6_classIf 16 = .ok (.iconst (-1), 1) := by decide +kernel
theorem dX6_classIf_17 : decode cX6_classIf 17 = .ok (.ireturn, 1) := by decide +kernel
theorem dX6_classIf_18 : decode cX6_classIf 18 = .ok (.iload_n 3, 1) := by decide +kernel
theorem dX6_classIf_19 : decode cX6_classIf 19 = .ok (.iconst 0, 1) := by decide +kernel
theorem dX6_classIf_20 : decode cX6_classIf 20 = .ok (.bipush 100, 2) := by decide +kernel
theorem dX6_classIf_22 : decode cX6_classIf 22 = .ok (.invokestatic 66, 3) := by decide +kernel
theorem dX6_classIf_25 : decode cX6_classIf 25 = .ok (.ifCond .ne 6, 3) := by decide +kernel
theorem dX6_classIf_28 : decode cX6_classIf 28 = .ok (.bipush (-2), 2) := by decide +kernel
theorem dX6_classIf_30 : decode cX6_classIf 30 = .ok (.ireturn, 1) := by decide +kernel
theorem dX6_classIf_31 : decode cX6_classIf 31 = .ok (.aload_n 0, 1) := by decide +kernel
theorem dX6_classIf_32 : decode cX6_classIf 32 = .ok (.iload_n 1, 1) := by decide +kernel
theorem dX6_classIf_33 : decode cX6_classIf 33 = .ok (.iload_n 2, 1) := by decide +kernel
theorem dX6_classIf_34 : decode cX6_classIf 34 = .ok (.iload_n 3, 1) := by decide +kernel
theorem dX6_classIf_35 : decode cX6_classIf 35 = .ok (.invokevirtual 90, 3) := by decide +kernel
theorem dX6_classIf_38 : decode cX6_classIf 38 = .ok (.aload_n 0, 1) := by decide +kernel
theorem dX6_classIf_39 : decode cX6_classIf 39 = .ok (.getfield 134, 3) := by decide +kernel
theorem dX6_classIf_42 : decode cX6_classIf 42 = .ok (.ireturn, 1) := by decide +kernel
theorem dX6_needed_0 : decode cX6_needed 0 = .ok (.aload_n 0, 1) := by decide +kernel
theorem dX6_needed_1 : decode cX6_needed 1 = .ok (.iload_n 1, 1) := by decide +kernel
theorem dX6_needed_2 : decode cX6_needed 2 = .ok (.invokevirtual 168, 3) := by decide +kernel
theorem dX6_needed_5 : decode cX6_needed 5 = .ok (.ifCond .eq 11, 3) := by decide +kernel
theorem dX6_needed_8 : decode cX6_needed 8 = .ok (.aload_n 0, 1) := by decide +kernel
theorem dX6_needed_9 : decode cX6_needed 9 = .ok (.iload_n 2, 1) := by decide +kernel
theorem dX6_needed_10 : decode cX6_needed 10 = .ok (.invokevirtual 84, 3) := by decide +kernel
theorem dX6_needed_13 : decode cX6_needed 13 = .ok (.ifCond .ne 5, 3) := by decide +kernel
theorem dX6_needed_16 : decode cX6_needed 16 = .ok (.iconst (-1), 1) := by decide +kernel
theorem dX6_needed_17 : decode cX6_needed 17 = .ok (.ireturn, 1) := by decide +kernel
theorem dX6_needed_18 : decode cX6_needed 18 = .ok (.aload_n 0, 1) := by decide +kernel
theorem dX6_needed_19 : decode cX6_needed 19 = .ok (.iload_n 1, 1) := by decide +kernel
theorem dX6_needed_20 : decode cX6_needed 20 = .ok (.iconst (-1), 1) := by decide +kernel
theorem dX6_needed_21 : decode cX6_needed 21 = .ok (.iconst 0, 1) := by decide +kernel
theorem dX6_needed_22 : decode cX6_needed 22 = .ok (.invokevirtual 90, 3) := by decide +kernel
theorem dX6_needed_25 : decode cX6_needed 25 = .ok (.aload_n 0, 1) := by decide +kernel
theorem dX6_needed_26 : decode cX6_needed 26 = .ok (.getfield 134, 3) := by decide +kernel
theorem dX6_needed_29 : decode cX6_needed 29 = .ok (.iconst 1, 1) := by decide +kernel
theorem dX6_needed_30 : decode cX6_needed 30 = .ok (.iconst 4, 1) := by decide +kernel
theorem dX6_needed_31 : decode cX6_needed 31 = .ok (.invokestatic 66, 3) := by decide +kernel
theorem dX6_needed_34 : decode cX6_needed 34 = .ok (.ifCond .eq 10, 3) := by decide +kernel
theorem dX6_needed_37 : decode cX6_needed 37 = .ok (.aload_n 0, 1) := by decide +kernel
theorem dX6_needed_38 : decode cX6_needed 38 = .ok (.getfield 134, 3) := by decide +kernel
theorem dX6_needed_41 : decode cX6_needed 41 = .ok (.goto 4, 3) := by decide +kernel
theorem dX6_needed_44 : decode cX6_needed 44 = .ok (.iconst 5, 1) := by decide +kernel
theorem dX6_needed_45 : decode cX6_needed 45 = .ok (.istore_n 3, 1) := by decide +kernel
theorem dX6_needed_46 : decode cX6_needed 46 = .ok (.iconst 0, 1) := by decide +kernel
theorem dX6_needed_47 : decode cX6_needed 47 = .ok (.istore 4, 2) := by decide +kernel
theorem dX6_needed_49 : decode cX6_needed 49 = .ok (.iload 4, 2) := by decide +kernel
theorem dX6_needed_51 : decode cX6_needed 51 = .ok (.bipush 100, 2) := by decide +kernel
theorem dX6_needed_53 : decode cX6_needed 53 = .ok (.if_icmp .gt 35, 3) := by decide +kernel
theorem dX6_needed_56 : decode cX6_needed 56 = .ok (.aload_n 0, 1) := by decide +kernel
theorem dX6_needed_57 : decode cX6_needed 57 = .ok (.iload_n 1, 1) := by decide +kernel
theorem dX6_needed_58 : decode cX6_needed 58 = .ok (.iload_n 2, 1) := by decide +kernel
theorem dX6_needed_59 : decode cX6_needed 59 = .ok (.iload 4, 2) := by decide +kernel
theorem dX6_needed_61 : decode cX6_needed 61 = .ok (.invokevirtual 90, 3) := by decide +kernel
theorem dX6_needed_64 : decode cX6_needed 64 = .ok (.aload_n 0, 1) := by decide +kernel
theorem dX6_needed_65 : decode cX6_needed 65 = .ok (.getfield 134, 3) := by decide +kernel
theorem dX6_needed_68 : decode cX6_needed 68 = .ok (.ifCond .le 14, 3) := by decide +kernel
theorem dX6_needed_71 : decode cX6_needed 71 = .ok (.aload_n 0, 1) := by decide +kernel
theorem dX6_needed_72 : decode cX6_needed 72 = .ok (.getfield 134, 3) := by decide +kernel
theorem dX6_needed_75 : decode cX6_needed 75 = .ok (.iload_n 3, 1) := by decide +kernel
theorem dX6_needed_76 : decode cX6_needed 76 = .ok (.if_icmp .ge 6, 3) := by decide +kernel
theorem dX6_needed_79 : decode cX6_needed 79 = .ok (.iload 4, 2) := by decide +kernel
theorem dX6_needed_81 : decode cX6_needed 81 = .ok (.ireturn, 1) := by decide +kernel
theorem dX6_needed_82 : decode cX6_needed 82 = .ok (.iinc 4 1, 3) := by decide +kernel
theorem dX6_needed_85 : decode cX6_needed 85 = .ok (.goto (-36), 3) := by decide +kernel
theorem dX6_needed_88 : decode cX6_needed 88 = .ok (.bipush (-5), 2) := by decide +kernel
theorem dX6_needed_90 : decode cX6_needed 90 = .ok (.ireturn, 1) := by decide +kernel
theorem dX6_changedIf_0 : decode cX6_changedIf 0 = .ok (.iload_n 1, 1) := by decide +kernel
theorem dX6_changedIf_1 : decode cX6_changedIf 1 = .ok (.iload_n 2, 1) := by decide +kernel
theorem dX6_changedIf_2 : decode cX6_changedIf 2 = .ok (.invokestatic 70, 3) := by decide +kernel
theorem dX6_changedIf_5 : decode cX6_changedIf 5 = .ok (.ifCond .ne 6, 3) := by decide +kernel
theorem dX6_changedIf_8 : decode cX6_changedIf 8 = .ok (.bipush (-2), 2) := by decide +kernel
theorem dX6_changedIf_10 : decode cX6_changedIf 10 = .ok (.ireturn, 1) := by decide +kernel
theorem dX6_changedIf_11 : decode cX6_changedIf 11 = .ok (.aload_n 0, 1) := by decide +kernel
theorem dX6_changedIf_12 : decode cX6_changedIf 12 = .ok (.getfield 9, 3) := by decide +kernel
theorem dX6_changedIf_15 : decode cX6_changedIf 15 = .ok (.iload_n 1, 1) := by decide +kernel
theorem dX6_changedIf_16 : decode cX6_changedIf 16 = .ok (.iaload, 1) := by decide +kernel
theorem dX6_changedIf_17 : decode cX6_changedIf 17 = .ok (.istore_n 3, 1) := by decide +kernel
theorem dX6_changedIf_18 : decode cX6_changedIf 18 = .ok (.iconst 0, 1) := by decide +kernel
theorem dX6_changedIf_19 : decode cX6_changedIf 19 = .ok (.istore 4, 2) := by decide +kernel
theorem dX6_changedIf_21 : decode cX6_changedIf 21 = .ok (.iconst 0, 1) := by decide +kernel
theorem dX6_changedIf_22 : decode cX6_changedIf 22 = .ok (.istore 5, 2) := by decide +kernel
theorem dX6_changedIf_24 : decode cX6_changedIf 24 = .ok (.iload 5, 2) := by decide +kernel
theorem dX6_changedIf_26 : decode cX6_changedIf 26 = .ok (.aload_n 0, 1) := by decide +kernel
theorem dX6_changedIf_27 : decode cX6_changedIf 27 = .ok (.getfield 9, 3) := by decide +kernel
theorem dX6_changedIf_30 : decode cX6_changedIf 30 = .ok (.bipush 7, 2) := by decide +kernel
theorem dX6_changedIf_32 : decode cX6_changedIf 32 = .ok (.iaload, 1) := by decide +kernel
theorem dX6_changedIf_33 : decode cX6_changedIf 33 = .ok (.if_icmp .ge 57, 3) := by decide +kernel
theorem dX6_changedIf_36 : decode cX6_changedIf 36 = .ok (.aload_n 0, 1) := by decide +kernel
theorem dX6_changedIf_37 : decode cX6_changedIf 37 = .ok (.iload 5, 2) := by decide +kernel
theorem dX6_changedIf_39 : decode cX6_changedIf 39 = .ok (.iconst (-1), 1) := by decide +kernel
theorem dX6_changedIf_40 : decode cX6_changedIf 40 = .ok (.iconst 0, 1) := by decide +kernel
theorem dX6_changedIf_41 : decode cX6_changedIf 41 = .ok (.invokevirtual 90, 3) := by decide +kernel
theorem dX6_changedIf_44 : decode cX6_changedIf 44 = .ok (.aload_n 0, 1) := by decide +kernel
theorem dX6_changedIf_45 : decode cX6_changedIf 45 = .ok (.getfield 134, 3) := by decide +kernel
theorem dX6_changedIf_48 : decode cX6_changedIf 48 = .ok (.istore 6, 2) := by decide +kernel
theorem dX6_changedIf_50 : decode cX6_changedIf 50 = .ok (.aload_n 0, 1) := by decide +kernel
theorem dX6_changedIf_51 : decode cX6_changedIf 51 = .ok (.getfield 9, 3) := by decide +kernel
theorem dX6_changedIf_54 : decode cX6_changedIf 54 = .ok (.iload_n 1, 1) := by decide +kernel
theorem dX6_changedIf_55 : decode cX6_changedIf 55 = .ok (.iload_n 2, 1) := by decide +kernel
theorem dX6_changedIf_56 : decode cX6_changedIf 56 = .ok (.iastore, 1) := by decide +kernel
theorem dX6_changedIf_57 : decode cX6_changedIf 57 = .ok (.aload_n 0, 1) := by decide +kernel
theorem dX6_changedIf_58 : decode cX6_changedIf 58 = .ok (.iload 5, 2) := by decide +kernel
theorem dX6_changedIf_60 : decode cX6_changedIf 60 = .ok (.iconst (-1), 1) := by decide +kernel
theorem dX6_changedIf_61 : decode cX6_changedIf 61 = .ok (.iconst 0, 1) := by decide +kernel
theorem dX6_changedIf_62 : decode cX6_changedIf 62 = .ok (.invokevirtual 90, 3) := by decide +kernel
theorem dX6_changedIf_65 : decode cX6_changedIf 65 = .ok (.aload_n 0, 1) := by decide +kernel
theorem dX6_changedIf_66 : decode cX6_changedIf 66 = .ok (.getfield 134, 3) := by decide +kernel
theorem dX6_changedIf_69 : decode cX6_changedIf 69 = .ok (.iload 6, 2) := by decide +kernel
theorem dX6_changedIf_71 : decode cX6_changedIf 71 = .ok (.if_icmp .eq 6, 3) := by decide +kernel
theorem dX6_changedIf_74 : decode cX6_changedIf 74 = .ok (.iinc 4 1, 3) := by decide +kernel
theorem dX6_changedIf_77 : decode cX6_changedIf 77 = .ok (.aload_n 0, 1) := by decide +kernel
theorem dX6_changedIf_78 : decode cX6_changedIf 78 = .ok (.getfield 9, 3) := by decide +kernel
theorem dX6_changedIf_81 : decode cX6_changedIf 81 = .ok (.iload_n 1, 1) := by decide +kernel
theorem dX6_changedIf_82 : decode cX6_changedIf 82 = .ok (.iload_n 3, 1) := by decide +kernel
theorem dX6_changedIf_83 : decode cX6_changedIf 83 = .ok (.iastore, 1) := by decide +kernel
theorem dX6_changedIf_84 : decode cX6_changedIf 84 = .ok (.iinc 5 1, 3) := by decide +kernel
theorem dX6_changedIf_87 : decode cX6_changedIf 87 = .ok (.goto (-63), 3) := by decide +kernel
theorem dX6_changedIf_90 : decode cX6_changedIf 90 = .ok (.iload 4, 2) := by decide +kernel
theorem dX6_changedIf_92 : decode cX6_changedIf 92 = .ok (.ireturn, 1) := by decide +kernel
theorem dX6_append_0 : decode cX6_append 0 = .ok (.iload_n 1, 1) := by decide +kernel
theorem dX6_append_1 : decode cX6_append 1 = .ok (.bipush 32, 2) := by decide +kernel
theorem dX6_append_3 : decode cX6_append 3 = .ok (.bipush 126, 2) := by decide +kernel
theorem dX6_append_5 : decode cX6_append 5 = .ok (.invokestatic 66, 3) := by decide +kernel
theorem dX6_append_8 : decode cX6_append 8 = .ok (.ifCond .ne 6, 3) := by decide +kernel
theorem dX6_append_11 : decode cX6_append 11 = .ok (.bipush (-2), 2) := by decide +kernel
theorem dX6_append_13 : decode cX6_append 13 = .ok (.ireturn, 1) := by decide +kernel
theorem dX6_append_14 : decode cX6_append 14 = .ok (.aload_n 0, 1) := by decide +kernel
theorem dX6_append_15 : decode cX6_append 15 = .ok (.getfield 206, 3) := by decide +kernel
theorem dX6_append_18 : decode cX6_append 18 = .ok (.bipush 80, 2) := by decide +kernel
theorem dX6_append_20 : decode cX6_append 20 = .ok (.if_icmp .ne 6, 3) := by decide +kernel
theorem dX6_append_23 : decode cX6_append 23 = .ok (.bipush (-3), 2) := by decide +kernel
theorem dX6_append_25 : decode cX6_append 25 = .ok (.ireturn, 1) := by decide +kernel
theorem dX6_append_26 : decode cX6_append 26 = .ok (.aload_n 0, 1) := by decide +kernel
theorem dX6_append_27 : decode cX6_append 27 = .ok (.getfield 22, 3) := by decide +kernel
theorem dX6_append_30 : decode cX6_append 30 = .ok (.aload_n 0, 1) := by decide +kernel
theorem dX6_append_31 : decode cX6_append 31 = .ok (.dup, 1) := by decide +kernel
theorem dX6_append_32 : decode cX6_append 32 = .ok (.getfield 206, 3) := by decide +kernel
theorem dX6_append_35 : decode cX6_append 35 = .ok (.dup_x1, 1) := by decide +kernel
theorem dX6_append_36 : decode cX6_append 36 = .ok (.iconst 1, 1) := by decide +kernel
theorem dX6_append_37 : decode cX6_append 37 = .ok (.iadd, 1) := by decide +kernel
theorem dX6_append_38 : decode cX6_append 38 = .ok (.putfield 206, 3) := by decide +kernel
theorem dX6_append_41 : decode cX6_append 41 = .ok (.iload_n 1, 1) := by decide +kernel
theorem dX6_append_42 : decode cX6_append 42 = .ok (.iastore, 1) := by decide +kernel
theorem dX6_append_43 : decode cX6_append 43 = .ok (.aload_n 0, 1) := by decide +kernel
theorem dX6_append_44 : decode cX6_append 44 = .ok (.getfield 206, 3) := by decide +kernel
theorem dX6_append_47 : decode cX6_append 47 = .ok (.ireturn, 1) := by decide +kernel
theorem dX6_here_0 : decode cX6_here 0 = .ok (.aload_n 0, 1) := by decide +kernel
theorem dX6_here_1 : decode cX6_here 1 = .ok (.getfield 209, 3) := by decide +kernel
theorem dX6_here_4 : decode cX6_here 4 = .ok (.aload_n 0, 1) := by decide +kernel
theorem dX6_here_5 : decode cX6_here 5 = .ok (.getfield 206, 3) := by decide +kernel
theorem dX6_here_8 : decode cX6_here 8 = .ok (.if_icmp .ge 15, 3) := by decide +kernel
theorem dX6_here_11 : decode cX6_here 11 = .ok (.aload_n 0, 1) := by decide +kernel
theorem dX6_here_12 : decode cX6_here 12 = .ok (.getfield 22, 3) := by decide +kernel
theorem dX6_here_15 : decode cX6_here 15 = .ok (.aload_n 0, 1) := by decide +kernel
theorem dX6_here_16 : decode cX6_here 16 = .ok (.getfield 209, 3) := by decide +kernel
theorem dX6_here_19 : decode cX6_here 19 = .ok (.iaload, 1) := by decide +kernel
theorem dX6_here_20 : decode cX6_here 20 = .ok (.goto 4, 3) := by decide +kernel
theorem dX6_here_23 : decode cX6_here 23 = .ok (.iconst 0, 1) := by decide +kernel
theorem dX6_here_24 : decode cX6_here 24 = .ok (.ireturn, 1) := by decide +kernel
theorem dX6_takes_0 : decode cX6_takes 0 = .ok (.aload_n 0, 1) := by decide +kernel
theorem dX6_takes_1 : decode cX6_takes 1 = .ok (.invokevirtual 212, 3) := by decide +kernel
theorem dX6_takes_4 : decode cX6_takes 4 = .ok (.iload_n 1, 1) := by decide +kernel
theorem dX6_takes_5 : decode cX6_takes 5 = .ok (.if_icmp .eq 5, 3) := by decide +kernel
theorem dX6_takes_8 : decode cX6_takes 8 = .ok (.iconst 0, 1) := by decide +kernel
theorem dX6_takes_9 : decode cX6_takes 9 = .ok (.ireturn, 1) := by decide +kernel
theorem dX6_takes_10 : decode cX6_takes 10 = .ok (.aload_n 0, 1) := by decide +kernel
theorem dX6_takes_11 : decode cX6_takes 11 = .ok (.dup, 1) := by decide +kernel
theorem dX6_takes_12 : decode cX6_takes 12 = .ok (.getfield 209, 3) := by decide +kernel
theorem dX6_takes_15 : decode cX6_takes 15 = .ok (.iconst 1, 1) := by decide +kernel
theorem dX6_takes_16 : decode cX6_takes 16 = .ok (.iadd, 1) := by decide +kernel
theorem dX6_takes_17 : decode cX6_takes 17 = .ok (.putfield 209, 3) := by decide +kernel
theorem dX6_takes_20 : decode cX6_takes 20 = .ok (.iconst 1, 1) := by decide +kernel
theorem dX6_takes_21 : decode cX6_takes 21 = .ok (.ireturn, 1) := by decide +kernel
theorem dX6_number_0 : decode cX6_number 0 = .ok (.aload_n 0, 1) := by decide +kernel
theorem dX6_number_1 : decode cX6_number 1 = .ok (.invokevirtual 212, 3) := by decide +kernel
theorem dX6_number_4 : decode cX6_number 4 = .ok (.bipush 48, 2) := by decide +kernel
theorem dX6_number_6 : decode cX6_number 6 = .ok (.bipush 57, 2) := by decide +kernel
theorem dX6_number_8 : decode cX6_number 8 = .ok (.invokestatic 66, 3) := by decide +kernel
theorem dX6_number_11 : decode cX6_number 11 = .ok (.ifCond .ne 5, 3) := by decide +kernel
theorem dX6_number_14 : decode cX6_number 14 = .ok (.iconst (-1), 1) := by decide +kernel
theorem dX6_number_15 : decode cX6_number 15 = .ok (.ireturn, 1) := by decide +kernel
theorem dX6_number_16 : decode cX6_number 16 = .ok (.iconst 0, 1) := by decide +kernel
theorem dX6_number_17 : decode cX6_number 17 = .ok (.istore_n 1, 1) := by decide +kernel
theorem dX6_number_18 : decode cX6_number 18 = .ok (.iconst 0, 1) := by decide +kernel
theorem dX6_number_19 : decode cX6_number 19 = .ok (.istore_n 2, 1) := by decide +kernel
theorem dX6_number_20 : decode cX6_number 20 = .ok (.iload_n 2, 1) := by decide +kernel
theorem dX6_number_21 : decode cX6_number 21 = .ok (.iconst 3, 1) := by decide +kernel
theorem dX6_number_22 : decode cX6_number 22 = .ok (.if_icmp .ge 48, 3) := by decide +kernel
theorem dX6_number_25 : decode cX6_number 25 = .ok (.aload_n 0, 1) := by decide +kernel
theorem dX6_number_26 : decode cX6_number 26 = .ok (.invokevirtual 212, 3) := by decide +kernel
theorem dX6_number_29 : decode cX6_number 29 = .ok (.bipush 48, 2) := by decide +kernel
theorem dX6_number_31 : decode cX6_number 31 = .ok (.bipush 57, 2) := by decide +kernel
theorem dX6_number_33 : decode cX6_number 33 = .ok (.invokestatic 66, 3) := by decide +kernel
theorem dX6_number_36 : decode cX6_number 36 = .ok (.ifCond .eq 34, 3) := by decide +kernel
theorem dX6_number_39 : decode cX6_number 39 = .ok (.bipush 10, 2) := by decide +kernel
theorem dX6_number_41 : decode cX6_number 41 = .ok (.iload_n 1, 1) := by decide +kernel
theorem dX6_number_42 : decode cX6_number 42 = .ok (.imul, 1) := by decide +kernel
theorem dX6_number_43 : decode cX6_number 43 = .ok (.aload_n 0, 1) := by decide +kernel
theorem dX6_number_44 : decode cX6_number 44 = .ok (.getfield 22, 3) := by decide +kernel
theorem dX6_number_47 : decode cX6_number 47 = .ok (.aload_n 0, 1) := by decide +kernel
theorem dX6_number_48 : decode cX6_number 48 = .ok (.dup, 1) := by decide +kernel
theorem dX6_number_49 : decode cX6_number 49 = .ok (.getfield 209, 3) := by decide +kernel
theorem dX6_number_52 : decode cX6_number 52 = .ok (.dup_x1, 1) := by decide +kernel
theorem dX6_number_53 : decode cX6_number 53 = .ok (.iconst 1, 1) := by decide +kernel
theorem dX6_number_54 : decode cX6_number 54 = .ok (.iadd, 1) := by decide +kernel
theorem dX6_number_55 : decode cX6_number 55 = .ok (.putfield 209, 3) := by decide +kernel
theorem dX6_number_58 : decode cX6_number 58 = .ok (.iaload, 1) := by decide +kernel
theorem dX6_number_59 : decode cX6_number 59 = .ok (.iadd, 1) := by decide +kernel
theorem dX6_number_60 : decode cX6_number 60 = .ok (.bipush 48, 2) := by decide +kernel
theorem dX6_number_62 : decode cX6_number 62 = .ok (.isub, 1) := by decide +kernel
theorem dX6_number_63 : decode cX6_number 63 = .ok (.istore_n 1, 1) := by decide +kernel
theorem dX6_number_64 : decode cX6_number 64 = .ok (.iinc 2 1, 3) := by decide +kernel
theorem dX6_number_67 : decode cX6_number 67 = .ok (.goto (-47), 3) := by decide +kernel
theorem dX6_number_70 : decode cX6_number 70 = .ok (.iload_n 1, 1) := by decide +kernel
theorem dX6_number_71 : decode cX6_number 71 = .ok (.ireturn, 1) := by decide +kernel
theorem dX6_entry_0 : decode cX6_entry 0 = .ok (.aload_n 0, 1) := by decide +kernel
theorem dX6_entry_1 : decode cX6_entry 1 = .ok (.invokevirtual 212, 3) := by decide +kernel
theorem dX6_entry_4 : decode cX6_entry 4 = .ok (.istore_n 2, 1) := by decide +kernel
theorem dX6_entry_5 : decode cX6_entry 5 = .ok (.iload_n 2, 1) := by decide +kernel
theorem dX6_entry_6 : decode cX6_entry 6 = .ok (.bipush 109, 2) := by decide +kernel
theorem dX6_entry_8 : decode cX6_entry 8 = .ok (.if_icmp .eq 29, 3) := by decide +kernel
theorem dX6_entry_11 : decode cX6_entry 11 = .ok (.iload_n 2, 1) := by decide +kernel
theorem dX6_entry_12 : decode cX6_entry 12 = .ok (.bipush 114, 2) := by decide +kernel
theorem dX6_entry_14 : decode cX6_entry 14 = .ok (.if_icmp .eq 23, 3) := by decide +kernel
theorem dX6_entry_17 : decode cX6_entry 17 = .ok (.iload_n 2, 1) := by decide +kernel
theorem dX6_entry_18 : decode cX6_entry 18 = .ok (.bipush 101, 2) := by decide +kernel
theorem dX6_entry_20 : decode cX6_entry 20 = .ok (.if_icmp .eq 17, 3) := by decide +kernel
theorem dX6_entry_23 : decode cX6_entry 23 = .ok (.iload_n 2, 1) := by decide +kernel
theorem dX6_entry_24 : decode cX6_entry 24 = .ok (.bipush 97, 2) := by decide +kernel
theorem dX6_entry_26 : decode cX6_entry 26 = .ok (.if_icmp .eq 11, 3) := by decide +kernel
theorem dX6_entry_29 : decode cX6_entry 29 = .ok (.iload_n 2, 1) := by decide +kernel
theorem dX6_entry_30 : decode cX6_entry 30 = .ok (.bipush 120, 2) := by decide +kernel
theorem dX6_entry_32 : decode cX6_entry 32 = .ok (.if_icmp .eq 5, 3) := by decide +kernel
theorem dX6_entry_35 : decode cX6_entry 35 = .ok (.iconst (-1), 1) := by decide +kernel
theorem dX6_entry_36 : decode cX6_entry 36 = .ok (.ireturn, 1) := by decide +kernel
theorem dX6_entry_37 : decode cX6_entry 37 = .ok (.aload_n 0, 1) := by decide +kernel
theorem dX6_entry_38 : decode cX6_entry 38 = .ok (.dup, 1) := by decide +kernel
theorem dX6_entry_39 : decode cX6_entry 39 = .ok (.getfield 209, 3) := by decide +kernel
theorem dX6_entry_42 : decode cX6_entry 42 = .ok (.iconst 1, 1) := by decide +kernel
theorem dX6_entry_43 : decode cX6_entry 43 = .ok (.iadd, 1) := by decide +kernel
theorem dX6_entry_44 : decode cX6_entry 44 = .ok (.putfield 209, 3) := by decide +kernel
theorem dX6_entry_47 : decode cX6_entry 47 = .ok (.aload_n 0, 1) := by decide +kernel
theorem dX6_entry_48 : decode cX6_entry 48 = .ok (.invokevirtual 215, 3) := by decide +kernel
theorem dX6_entry_51 : decode cX6_entry 51 = .ok (.istore_n 3, 1) := by decide +kernel
theorem dX6_entry_52 : decode cX6_entry 52 = .ok (.iload_n 3, 1) := by decide +kernel
theorem dX6_entry_53 : decode cX6_entry 53 = .ok (.ifCond .lt 12, 3) := by decide +kernel
theorem dX6_entry_56 : decode cX6_entry 56 = .ok (.aload_n 0, 1) := by decide +kernel
theorem dX6_entry_57 : decode cX6_entry 57 = .ok (.bipush 46, 2) := by decide +kernel
theorem dX6_entry_59 : decode cX6_entry 59 = .ok (.invokevirtual 218, 3) := by decide +kernel
theorem dX6_entry_62 : decode cX6_entry 62 = .ok (.ifCond .ne 5, 3) := by decide +kernel
theorem dX6_entry_65 : decode cX6_entry 65 = .ok (.iconst (-1), 1) := by decide +kernel
theorem dX6_entry_66 : decode cX6_entry 66 = .ok (.ireturn, 1) := by decide +kernel
theorem dX6_entry_67 : decode cX6_entry 67 = .ok (.aload_n 0, 1) := by decide +kernel
theorem dX6_entry_68 : decode cX6_entry 68 = .ok (.invokevirtual 215, 3) := by decide +kernel
theorem dX6_entry_71 : decode cX6_entry 71 = .ok (.istore 4, 2) := by decide +kernel
theorem dX6_entry_73 : decode cX6_entry 73 = .ok (.iload 4, 2) := by decide +kernel
theorem dX6_entry_75 : decode cX6_entry 75 = .ok (.ifCond .ge 5, 3) := by decide +kernel
theorem dX6_entry_78 : decode cX6_entry 78 = .ok (.iconst (-1), 1) := by decide +kernel
theorem dX6_entry_79 : decode cX6_entry 79 = .ok (.ireturn, 1) := by decide +kernel
theorem dX6_entry_80 : decode cX6_entry 80 = .ok (.iconst 0, 1) := by decide +kernel
theorem dX6_entry_81 : decode cX6_entry 81 = .ok (.istore 5, 2) := by decide +kernel
theorem dX6_entry_83 : decode cX6_entry 83 = .ok (.iload_n 2, 1) := by decide +kernel
theorem dX6_entry_84 : decode cX6_entry 84 = .ok (.bipush 109, 2) := by decide +kernel
theorem dX6_entry_86 : decode cX6_entry 86 = .ok (.if_icmp .eq 9, 3) := by decide +kernel
theorem dX6_entry_89 : decode cX6_entry 89 = .ok (.iload_n 2, 1) := by decide +kernel
theorem dX6_entry_90 : decode cX6_entry 90 = .ok (.bipush 114, 2) := by decide +kernel
theorem dX6_entry_92 : decode cX6_entry 92 = .ok (.if_icmp .ne 27, 3) := by decide +kernel
theorem dX6_entry_95 : decode cX6_entry 95 = .ok (.aload_n 0, 1) := by decide +kernel
theorem dX6_entry_96 : decode cX6_entry 96 = .ok (.bipush 61, 2) := by decide +kernel
theorem dX6_entry_98 : decode cX6_entry 98 = .ok (.invokevirtual 218, 3) := by decide +kernel
theorem dX6_entry_101 : decode cX6_entry 101 = .ok (.ifCond .ne 5, 3) := by decide +kernel
theorem dX6_entry_104 : decode cX6_entry 104 = .ok (.iconst (-1), 1) := by decide +kernel
theorem dX6_entry_105 : decode cX6_entry 105 = .ok (.ireturn, 1) := by decide +kernel
theorem dX6_entry_106 : decode cX6_entry 106 = .ok (.aload_n 0, 1) := by decide +kernel
theorem dX6_entry_107 : decode cX6_entry 107 = .ok (.invokevirtual 215, 3) := by decide +kernel
theorem dX6_entry_110 : decode cX6_entry 110 = .ok (.istore 5, 2) := by decide +kernel
theorem dX6_entry_112 : decode cX6_entry 112 = .ok (.iload 5, 2) := by decide +kernel
theorem dX6_entry_114 : decode cX6_entry 114 = .ok (.ifCond .ge 5, 3) := by decide +kernel
theorem dX6_entry_117 : decode cX6_entry 117 = .ok (.iconst (-1), 1) := by decide +kernel
theorem dX6_entry_118 : decode cX6_entry 118 = .ok (.ireturn, 1) := by decide +kernel
theorem dX6_entry_119 : decode cX6_entry 119 = .ok (.iload_n 1, 1) := by decide +kernel
theorem dX6_entry_120 : decode cX6_entry 120 = .ok (.ifCond .ne 5, 3) := by decide +kernel
theorem dX6_entry_123 : decode cX6_entry 123 = .ok (.iconst 0, 1) := by decide +kernel
theorem dX6_entry_124 : decode cX6_entry 124 = .ok (.ireturn, 1) := by decide +kernel
theorem dX6_entry_125 : decode cX6_entry 125 = .ok (.iload_n 2, 1) := by decide +kernel
theorem dX6_entry_126 : decode cX6_entry 126 = .ok (.lookupswitch 63 #[(109, 34), (114, 45), (120, 55)], 34) := by decide +kernel
theorem dX6_entry_160 : decode cX6_entry 160 = .ok (.aload_n 0, 1) := by decide +kernel
theorem dX6_entry_161 : decode cX6_entry 161 = .ok (.iload_n 3, 1) := by decide +kernel
theorem dX6_entry_162 : decode cX6_entry 162 = .ok (.iload 4, 2) := by decide +kernel
theorem dX6_entry_164 : decode cX6_entry 164 = .ok (.iconst 1, 1) := by decide +kernel
theorem dX6_entry_165 : decode cX6_entry 165 = .ok (.iload 5, 2) := by decide +kernel
theorem dX6_entry_167 : decode cX6_entry 167 = .ok (.invokevirtual 177, 3) := by decide +kernel
theorem dX6_entry_170 : decode cX6_entry 170 = .ok (.ireturn, 1) := by decide +kernel
theorem dX6_entry_171 : decode cX6_entry 171 = .ok (.aload_n 0, 1) := by decide +kernel
theorem dX6_entry_172 : decode cX6_entry 172 = .ok (.iload_n 3, 1) := by decide +kernel
theorem dX6_entry_173 : decode cX6_entry 173 = .ok (.iload 4, 2) := by decide +kernel
theorem dX6_entry_175 : decode cX6_entry 175 = .ok (.iload 5, 2) := by decide +kernel
theorem dX6_entry_177 : decode cX6_entry 177 = .ok (.invokevirtual 184, 3) := by decide +kernel
theorem dX6_entry_180 : decode cX6_entry 180 = .ok (.ireturn, 1) := by decide +kernel
theorem dX6_entry_181 : decode cX6_entry 181 = .ok (.aload_n 0, 1) := by decide +kernel
theorem dX6_entry_182 : decode cX6_entry 182 = .ok (.iload_n 3, 1) := by decide +kernel
theorem dX6_entry_183 : decode cX6_entry 183 = .ok (.iload 4, 2) := by decide +kernel
theorem dX6_entry_185 : decode cX6_entry 185 = .ok (.invokevirtual 187, 3) := by decide +kernel
theorem dX6_entry_188 : decode cX6_entry 188 = .ok (.ireturn, 1) := by decide +kernel
theorem dX6_entry_189 : decode cX6_entry 189 = .ok (.aload_n 0, 1) := by decide +kernel
theorem dX6_entry_190 : decode cX6_entry 190 = .ok (.iload_n 3, 1) := by decide +kernel
theorem dX6_entry_191 : decode cX6_entry 191 = .ok (.iload 4, 2) := by decide +kernel
theorem dX6_entry_193 : decode cX6_entry 193 = .ok (.iload_n 2, 1) := by decide +kernel
theorem dX6_entry_194 : decode cX6_entry 194 = .ok (.bipush 97, 2) := by decide +kernel
theorem dX6_entry_196 : decode cX6_entry 196 = .ok (.if_icmp .ne 7, 3) := by decide +kernel
theorem dX6_entry_199 : decode cX6_entry 199 = .ok (.iconst 2, 1) := by decide +kernel
theorem dX6_entry_200 : decode cX6_entry 200 = .ok (.goto 4, 3) := by decide +kernel
theorem dX6_entry_203 : decode cX6_entry 203 = .ok (.iconst 3, 1) := by decide +kernel
theorem dX6_entry_204 : decode cX6_entry 204 = .ok (.iconst 0, 1) := by decide +kernel
theorem dX6_entry_205 : decode cX6_entry 205 = .ok (.invokevirtual 177, 3) := by decide +kernel
theorem dX6_entry_208 : decode cX6_entry 208 = .ok (.ireturn, 1) := by decide +kernel
theorem dX6_comesBack_0 : decode cX6_comesBack 0 = .ok (.iconst 0, 1) := by decide +kernel
theorem dX6_comesBack_1 : decode cX6_comesBack 1 = .ok (.istore_n 1, 1) := by decide +kernel
theorem dX6_comesBack_2 : decode cX6_comesBack 2 = .ok (.iload_n 1, 1) := by decide +kernel
theorem dX6_comesBack_3 : decode cX6_comesBack 3 = .ok (.sipush 745, 3) := by decide +kernel
theorem dX6_comesBack_6 : decode cX6_comesBack 6 = .ok (.if_icmp .ge 21, 3) := by decide +kernel
theorem dX6_comesBack_9 : decode cX6_comesBack 9 = .ok (.aload_n 0, 1) := by decide +kernel
theorem dX6_comesBack_10 : decode cX6_comesBack 10 = .ok (.getfield 9, 3) := by decide +kernel
theorem dX6_comesBack_13 : decode cX6_comesBack 13 = .ok (.iload_n 1, 1) := by decide +kernel
theorem dX6_comesBack_14 : decode cX6_comesBack 14 = .ok (.aload_n 0, 1) := by decide +kernel
theorem dX6_comesBack_15 : decode cX6_comesBack 15 = .ok (.getfield 19, 3) := by decide +kernel
theorem dX6_comesBack_18 : decode cX6_comesBack 18 = .ok (.iload_n 1, 1) := by decide +kernel
theorem dX6_comesBack_19 : decode cX6_comesBack 19 = .ok (.iaload, 1) := by decide +kernel
theorem dX6_comesBack_20 : decode cX6_comesBack 20 = .ok (.iastore, 1) := by decide +kernel
theorem dX6_comesBack_21 : decode cX6_comesBack 21 = .ok (.iinc 1 1, 3) := by decide +kernel
theorem dX6_comesBack_24 : decode cX6_comesBack 24 = .ok (.goto (-22), 3) := by decide +kernel
theorem dX6_comesBack_27 : decode cX6_comesBack 27 = .ok (.aload_n 0, 1) := by decide +kernel
theorem dX6_comesBack_28 : decode cX6_comesBack 28 = .ok (.iconst 0, 1) := by decide +kernel
theorem dX6_comesBack_29 : decode cX6_comesBack 29 = .ok (.putfield 206, 3) := by decide +kernel
theorem dX6_comesBack_32 : decode cX6_comesBack 32 = .ok (.return_, 1) := by decide +kernel
theorem dX6_read_0 : decode cX6_read 0 = .ok (.aload_n 0, 1) := by decide +kernel
theorem dX6_read_1 : decode cX6_read 1 = .ok (.invokevirtual 54, 3) := by decide +kernel
theorem dX6_read_4 : decode cX6_read 4 = .ok (.aload_n 0, 1) := by decide +kernel
theorem dX6_read_5 : decode cX6_read 5 = .ok (.getfield 162, 3) := by decide +kernel
theorem dX6_read_8 : decode cX6_read 8 = .ok (.istore_n 1, 1) := by decide +kernel
theorem dX6_read_9 : decode cX6_read 9 = .ok (.aload_n 0, 1) := by decide +kernel
theorem dX6_read_10 : decode cX6_read 10 = .ok (.getfield 165, 3) := by decide +kernel
theorem dX6_read_13 : decode cX6_read 13 = .ok (.istore_n 2, 1) := by decide +kernel
theorem dX6_read_14 : decode cX6_read 14 = .ok (.aload_n 0, 1) := by decide +kernel
theorem dX6_read_15 : decode cX6_read 15 = .ok (.iconst 0, 1) := by decide +kernel
theorem dX6_read_16 : decode cX6_read 16 = .ok (.putfield 209, 3) := by decide +kernel
theorem dX6_read_19 : decode cX6_read 19 = .ok (.iconst 0, 1) := by decide +kernel
theorem dX6_read_20 : decode cX6_read 20 = .ok (.istore_n 3, 1) := by decide +kernel
theorem dX6_read_21 : decode cX6_read 21 = .ok (.iconst (-1), 1) := by decide +kernel
theorem dX6_read_22 : decode cX6_read 22 = .ok (.istore 4, 2) := by decide +kernel
theorem dX6_read_24 : decode cX6_read 24 = .ok (.iconst 1, 1) := by decide +kernel
theorem dX6_read_25 : decode cX6_read 25 = .ok (.istore 5, 2) := by decide +kernel
theorem dX6_read_27 : decode cX6_read 27 = .ok (.iload 5, 2) := by decide +kernel
theorem dX6_read_29 : decode cX6_read 29 = .ok (.ifCond .eq 115, 3) := by decide +kernel
theorem dX6_read_32 : decode cX6_read 32 = .ok (.aload_n 0, 1) := by decide +kernel
theorem dX6_read_33 : decode cX6_read 33 = .ok (.iload 4, 2) := by decide +kernel
theorem dX6_read_35 : decode cX6_read 35 = .ok (.ifCond .ge 7, 3) := by decide +kernel
theorem dX6_read_38 : decode cX6_read 38 = .ok (.iconst 1, 1) := by decide +kernel
theorem dX6_read_39 : decode cX6_read 39 = .ok (.goto 4, 3) := by decide +kernel
theorem dX6_read_42 : decode cX6_read 42 = .ok (.iconst 0, 1) := by decide +kernel
theorem dX6_read_43 : decode cX6_read 43 = .ok (.invokevirtual 221, 3) := by decide +kernel
theorem dX6_read_46 : decode cX6_read 46 = .ok (.istore 6, 2) := by decide +kernel
theorem dX6_read_48 : decode cX6_read 48 = .ok (.iload 6, 2) := by decide +kernel
theorem dX6_read_50 : decode cX6_read 50 = .ok (.ifCond .lt 18, 3) := by decide +kernel
theorem dX6_read_53 : decode cX6_read 53 = .ok (.aload_n 0, 1) := by decide +kernel
theorem dX6_read_54 : decode cX6_read 54 = .ok (.getfield 209, 3) := by decide +kernel
theorem dX6_read_57 : decode cX6_read 57 = .ok (.aload_n 0, 1) := by decide +kernel
theorem dX6_read_58 : decode cX6_read 58 = .ok (.getfield 206, 3) := by decide +kernel
theorem dX6_read_61 : decode cX6_read 61 = .ok (.if_icmp .ge 7, 3) := by decide +kernel
theorem dX6_read_64 : decode cX6_read 64 = .ok (.iconst 1, 1) := by decide +kernel
theorem dX6_read_65 : decode cX6_read 65 = .ok (.goto 4, 3) := by decide +kernel
theorem dX6_read_68 : decode cX6_read 68 = .ok (.iconst 0, 1) := by decide +kernel
theorem dX6_read_69 : decode cX6_read 69 = .ok (.istore 5, 2) := by decide +kernel
theorem dX6_read_71 : decode cX6_read 71 = .ok (.iload 5, 2) := by decide +kernel
theorem dX6_read_73 : decode cX6_read 73 = .ok (.ifCond .eq 16, 3) := by decide +kernel
theorem dX6_read_76 : decode cX6_read 76 = .ok (.aload_n 0, 1) := by decide +kernel
theorem dX6_read_77 : decode cX6_read 77 = .ok (.bipush 59, 2) := by decide +kernel
theorem dX6_read_79 : decode cX6_read 79 = .ok (.invokevirtual 218, 3) := by decide +kernel
theorem dX6_read_82 : decode cX6_read 82 = .ok (.ifCond .ne 7, 3) := by decide +kernel
theorem dX6_read_85 : decode cX6_read 85 = .ok (.iconst 1, 1) := by decide +kernel
theorem dX6_read_86 : decode cX6_read 86 = .ok (.goto 4, 3) := by decide +kernel
theorem dX6_read_89 : decode cX6_read 89 = .ok (.iconst 0, 1) := by decide +kernel
theorem dX6_read_90 : decode cX6_read 90 = .ok (.istore 7, 2) := by decide +kernel
theorem dX6_read_92 : decode cX6_read 92 = .ok (.iload 6, 2) := by decide +kernel
theorem dX6_read_94 : decode cX6_read 94 = .ok (.ifCond .lt 8, 3) := by decide +kernel
theorem dX6_read_97 : decode cX6_read 97 = .ok (.iload 7, 2) := by decide +kernel
theorem dX6_read_99 : decode cX6_read 99 = .ok (.ifCond .eq 26, 3) := by decide +kernel
theorem dX6_read_102 : decode cX6_read 102 = .ok (.aload_n 0, 1) := by decide +kernel
theorem dX6_read_103 : decode cX6_read 103 = .ok (.iload_n 1, 1) := by decide +kernel
theorem dX6_read_104 : decode cX6_read 104 = .ok (.putfield 162, 3) := by decide +kernel
theorem dX6_read_107 : decode cX6_read 107 = .ok (.aload_n 0, 1) := by decide +kernel
theorem dX6_read_108 : decode cX6_read 108 = .ok (.iload_n 2, 1) := by decide +kernel
theorem dX6_read_109 : decode cX6_read 109 = .ok (.putfield 165, 3) := by decide +kernel
theorem dX6_read_112 : decode cX6_read 112 = .ok (.aload_n 0, 1) := by decide +kernel
theorem dX6_read_113 : decode cX6_read 113 = .ok (.invokevirtual 224, 3) := by decide +kernel
theorem dX6_read_116 : decode cX6_read 116 = .ok (.sipush (-1000), 3) := by decide +kernel
theorem dX6_read_119 : decode cX6_read 119 = .ok (.aload_n 0, 1) := by decide +kernel
theorem dX6_read_120 : decode cX6_read 120 = .ok (.getfield 209, 3) := by decide +kernel
theorem dX6_read_123 : decode cX6_read 123 = .ok (.isub, 1) := by decide +kernel
theorem dX6_read_124 : decode cX6_read 124 = .ok (.ireturn, 1) := by decide +kernel
theorem dX6_read_125 : decode cX6_read 125 = .ok (.iload 6, 2) := by decide +kernel
theorem dX6_read_127 : decode cX6_read 127 = .ok (.ifCond .le 11, 3) := by decide +kernel
theorem dX6_read_130 : decode cX6_read 130 = .ok (.iload 4, 2) := by decide +kernel
theorem dX6_read_132 : decode cX6_read 132 = .ok (.ifCond .ge 6, 3) := by decide +kernel
theorem dX6_read_135 : decode cX6_read 135 = .ok (.iload_n 3, 1) := by decide +kernel
theorem dX6_read_136 : decode cX6_read 136 = .ok (.istore 4, 2) := by decide +kernel
theorem dX6_read_138 : decode cX6_read 138 = .ok (.iinc 3 1, 3) := by decide +kernel
theorem dX6_read_141 : decode cX6_read 141 = .ok (.goto (-114), 3) := by decide +kernel
theorem dX6_read_144 : decode cX6_read 144 = .ok (.iload 4, 2) := by decide +kernel
theorem dX6_read_146 : decode cX6_read 146 = .ok (.ifCond .lt 16, 3) := by decide +kernel
theorem dX6_read_149 : decode cX6_read 149 = .ok (.aload_n 0, 1) := by decide +kernel
theorem dX6_read_150 : decode cX6_read 150 = .ok (.iload 4, 2) := by decide +kernel
theorem dX6_read_152 : decode cX6_read 152 = .ok (.putfield 174, 3) := by decide +kernel
theorem dX6_read_155 : decode cX6_read 155 = .ok (.aload_n 0, 1) := by decide +kernel
theorem dX6_read_156 : decode cX6_read 156 = .ok (.invokevirtual 224, 3) := by decide +kernel
theorem dX6_read_159 : decode cX6_read 159 = .ok (.bipush (-4), 2) := by decide +kernel
theorem dX6_read_161 : decode cX6_read 161 = .ok (.ireturn, 1) := by decide +kernel
theorem dX6_read_162 : decode cX6_read 162 = .ok (.aload_n 0, 1) := by decide +kernel
theorem dX6_read_163 : decode cX6_read 163 = .ok (.iconst 0, 1) := by decide +kernel
theorem dX6_read_164 : decode cX6_read 164 = .ok (.putfield 206, 3) := by decide +kernel
theorem dX6_read_167 : decode cX6_read 167 = .ok (.aload_n 0, 1) := by decide +kernel
theorem dX6_read_168 : decode cX6_read 168 = .ok (.invokevirtual 57, 3) := by decide +kernel
theorem dX6_read_171 : decode cX6_read 171 = .ok (.iload_n 3, 1) := by decide +kernel
theorem dX6_read_172 : decode cX6_read 172 = .ok (.ireturn, 1) := by decide +kernel
theorem dX6_refusal_0 : decode cX6_refusal 0 = .ok (.iload_n 1, 1) := by decide +kernel
theorem dX6_refusal_1 : decode cX6_refusal 1 = .ok (.iconst 0, 1) := by decide +kernel
theorem dX6_refusal_2 : decode cX6_refusal 2 = .ok (.iconst 2, 1) := by decide +kernel
theorem dX6_refusal_3 : decode cX6_refusal 3 = .ok (.invokestatic 66, 3) := by decide +kernel
theorem dX6_refusal_6 : decode cX6_refusal 6 = .ok (.ifCond .ne 6, 3) := by decide +kernel
theorem dX6_refusal_9 : decode cX6_refusal 9 = .ok (.bipush (-2), 2) := by decide +kernel
theorem dX6_refusal_11 : decode cX6_refusal 11 = .ok (.ireturn, 1) := by decide +kernel
theorem dX6_refusal_12 : decode cX6_refusal 12 = .ok (.aload_n 0, 1) := by decide +kernel
theorem dX6_refusal_13 : decode cX6_refusal 13 = .ok (.getfield 162, 3) := by decide +kernel
theorem dX6_refusal_16 : decode cX6_refusal 16 = .ok (.ifCond .ne 6, 3) := by decide +kernel
theorem dX6_refusal_19 : decode cX6_refusal 19 = .ok (.bipush (-5), 2) := by decide +kernel
theorem dX6_refusal_21 : decode cX6_refusal 21 = .ok (.ireturn, 1) := by decide +kernel
theorem dX6_refusal_22 : decode cX6_refusal 22 = .ok (.iload_n 1, 1) := by decide +kernel
theorem dX6_refusal_23 : decode cX6_refusal 23 = .ok (.ifCond .ne 10, 3) := by decide +kernel
theorem dX6_refusal_26 : decode cX6_refusal 26 = .ok (.aload_n 0, 1) := by decide +kernel
theorem dX6_refusal_27 : decode cX6_refusal 27 = .ok (.getfield 162, 3) := by decide +kernel
theorem dX6_refusal_30 : decode cX6_refusal 30 = .ok (.goto 19, 3) := by decide +kernel
theorem dX6_refusal_33 : decode cX6_refusal 33 = .ok (.iload_n 1, 1) := by decide +kernel
theorem dX6_refusal_34 : decode cX6_refusal 34 = .ok (.iconst 1, 1) := by decide +kernel
theorem dX6_refusal_35 : decode cX6_refusal 35 = .ok (.if_icmp .ne 10, 3) := by decide +kernel
theorem dX6_refusal_38 : decode cX6_refusal 38 = .ok (.aload_n 0, 1) := by decide +kernel
theorem dX6_refusal_39 : decode cX6_refusal 39 = .ok (.getfield 174, 3) := by decide +kernel
theorem dX6_refusal_42 : decode cX6_refusal 42 = .ok (.goto 7, 3) := by decide +kernel
theorem dX6_refusal_45 : decode cX6_refusal 45 = .ok (.aload_n 0, 1) := by decide +kernel
theorem dX6_refusal_46 : decode cX6_refusal 46 = .ok (.getfield 165, 3) := by decide +kernel
theorem dX6_refusal_49 : decode cX6_refusal 49 = .ok (.ireturn, 1) := by decide +kernel
theorem dX6_writes_0 : decode cX6_writes 0 = .ok (.iload_n 1, 1) := by decide +kernel
theorem dX6_writes_1 : decode cX6_writes 1 = .ok (.bipush 9, 2) := by decide +kernel
theorem dX6_writes_3 : decode cX6_writes 3 = .ok (.if_icmp .le 11, 3) := by decide +kernel
theorem dX6_writes_6 : decode cX6_writes 6 = .ok (.aload_n 0, 1) := by decide +kernel
theorem dX6_writes_7 : decode cX6_writes 7 = .ok (.iload_n 1, 1) := by decide +kernel
theorem dX6_writes_8 : decode cX6_writes 8 = .ok (.bipush 10, 2) := by decide +kernel
theorem dX6_writes_10 : decode cX6_writes 10 = .ok (.idiv, 1) := by decide +kernel
theorem dX6_writes_11 : decode cX6_writes 11 = .ok (.invokevirtual 227, 3) := by decide +kernel
theorem dX6_writes_14 : decode cX6_writes 14 = .ok (.aload_n 0, 1) := by decide +kernel
theorem dX6_writes_15 : decode cX6_writes 15 = .ok (.getfield 25, 3) := by decide +kernel
theorem dX6_writes_18 : decode cX6_writes 18 = .ok (.aload_n 0, 1) := by decide +kernel
theorem dX6_writes_19 : decode cX6_writes 19 = .ok (.dup, 1) := by decide +kernel
theorem dX6_writes_20 : decode cX6_writes 20 = .ok (.getfield 231, 3) := by decide +kernel
theorem dX6_writes_23 : decode cX6_writes 23 = .ok (.dup_x1, 1) := by decide +kernel
theorem dX6_writes_24 : decode cX6_writes 24 = .ok (.iconst 1, 1) := by decide +kernel
theorem dX6_writes_25 : decode cX6_writes 25 = .ok (.iadd, 1) := by decide +kernel
theorem dX6_writes_26 : decode cX6_writes 26 = .ok (.putfield 231, 3) := by decide +kernel
theorem dX6_writes_29 : decode cX6_writes 29 = .ok (.bipush 48, 2) := by decide +kernel
theorem dX6_writes_31 : decode cX6_writes 31 = .ok (.iload_n 1, 1) := by decide +kernel
theorem dX6_writes_32 : decode cX6_writes 32 = .ok (.bipush 10, 2) := by decide +kernel
theorem dX6_writes_34 : decode cX6_writes 34 = .ok (.irem, 1) := by decide +kernel
theorem dX6_writes_35 : decode cX6_writes 35 = .ok (.iadd, 1) := by decide +kernel
theorem dX6_writes_36 : decode cX6_writes 36 = .ok (.iastore, 1) := by decide +kernel
theorem dX6_writes_37 : decode cX6_writes 37 = .ok (.return_, 1) := by decide +kernel
theorem dX6_write_0 : decode cX6_write 0 = .ok (.aload_n 0, 1) := by decide +kernel
theorem dX6_write_1 : decode cX6_write 1 = .ok (.iload_n 1, 1) := by decide +kernel
theorem dX6_write_2 : decode cX6_write 2 = .ok (.invokevirtual 168, 3) := by decide +kernel
theorem dX6_write_5 : decode cX6_write 5 = .ok (.ifCond .ne 5, 3) := by decide +kernel
theorem dX6_write_8 : decode cX6_write 8 = .ok (.iconst (-1), 1) := by decide +kernel
theorem dX6_write_9 : decode cX6_write 9 = .ok (.ireturn, 1) := by decide +kernel
theorem dX6_write_10 : decode cX6_write 10 = .ok (.aload_n 0, 1) := by decide +kernel
theorem dX6_write_11 : decode cX6_write 11 = .ok (.iload_n 1, 1) := by decide +kernel
theorem dX6_write_12 : decode cX6_write 12 = .ok (.iconst (-1), 1) := by decide +kernel
theorem dX6_write_13 : decode cX6_write 13 = .ok (.iconst 0, 1) := by decide +kernel
theorem dX6_write_14 : decode cX6_write 14 = .ok (.invokevirtual 90, 3) := by decide +kernel
theorem dX6_write_17 : decode cX6_write 17 = .ok (.aload_n 0, 1) := by decide +kernel
theorem dX6_write_18 : decode cX6_write 18 = .ok (.iconst 0, 1) := by decide +kernel
theorem dX6_write_19 : decode cX6_write 19 = .ok (.putfield 231, 3) := by decide +kernel
theorem dX6_write_22 : decode cX6_write 22 = .ok (.iconst 0, 1) := by decide +kernel
theorem dX6_write_23 : decode cX6_write 23 = .ok (.istore_n 2, 1) := by decide +kernel
theorem dX6_write_24 : decode cX6_write 24 = .ok (.iload_n 2, 1) := by decide +kernel
theorem dX6_write_25 : decode cX6_write 25 = .ok (.aload_n 0, 1) := by decide +kernel
theorem dX6_write_26 : decode cX6_write 26 = .ok (.getfield 9, 3) := by decide +kernel
theorem dX6_write_29 : decode cX6_write 29 = .ok (.bipush 6, 2) := by decide +kernel
theorem dX6_write_31 : decode cX6_write 31 = .ok (.iaload, 1) := by decide +kernel
theorem dX6_write_32 : decode cX6_write 32 = .ok (.if_icmp .ge 155, 3) := by decide +kernel
theorem dX6_write_35 : decode cX6_write 35 = .ok (.aload_n 0, 1) := by decide +kernel
theorem dX6_write_36 : decode cX6_write 36 = .ok (.getfield 28, 3) := by decide +kernel
theorem dX6_write_39 : decode cX6_write 39 = .ok (.iload_n 2, 1) := by decide +kernel
theorem dX6_write_40 : decode cX6_write 40 = .ok (.iaload, 1) := by decide +kernel
theorem dX6_write_41 : decode cX6_write 41 = .ok (.ifCond .ge 6, 3) := by decide +kernel
theorem dX6_write_44 : decode cX6_write 44 = .ok (.goto 137, 3) := by decide +kernel
theorem dX6_write_47 : decode cX6_write 47 = .ok (.aload_n 0, 1) := by decide +kernel
theorem dX6_write_48 : decode cX6_write 48 = .ok (.getfield 231, 3) := by decide +kernel
theorem dX6_write_51 : decode cX6_write 51 = .ok (.ifCond .le 21, 3) := by decide +kernel
theorem dX6_write_54 : decode cX6_write 54 = .ok (.aload_n 0, 1) := by decide +kernel
theorem dX6_write_55 : decode cX6_write 55 = .ok (.getfield 25, 3) := by decide +kernel
theorem dX6_write_58 : decode cX6_write 58 = .ok (.aload_n 0, 1) := by decide +kernel
theorem dX6_write_59 : decode cX6_write 59 = .ok (.dup, 1) := by decide +kernel
theorem dX6_write_60 : decode cX6_write 60 = .ok (.getfield 231, 3) := by decide +kernel
theorem dX6_write_63 : decode cX6_write 63 = .ok (.dup_x1, 1) := by decide +kernel
theorem dX6_write_64 : decode cX6_write 64 = .ok (.iconst 1, 1) := by decide +kernel
theorem dX6_write_65 : decode cX6_write 65 = .ok (.iadd, 1) := by decide +kernel
theorem dX6_write_66 : decode cX6_write 66 = .ok (.putfield 231, 3) := by decide +kernel
theorem dX6_write_69 : decode cX6_write 69 = .ok (.bipush 59, 2) := by decide +kernel
theorem dX6_write_71 : decode cX6_write 71 = .ok (.iastore, 1) := by decide +kernel
theorem dX6_write_72 : decode cX6_write 72 = .ok (.aload_n 0, 1) := by decide +kernel
theorem dX6_write_73 : decode cX6_write 73 = .ok (.iload_n 2, 1) := by decide +kernel
theorem dX6_write_74 : decode cX6_write 74 = .ok (.invokevirtual 227, 3) := by decide +kernel
theorem dX6_write_77 : decode cX6_write 77 = .ok (.aload_n 0, 1) := by decide +kernel
theorem dX6_write_78 : decode cX6_write 78 = .ok (.getfield 25, 3) := by decide +kernel
theorem dX6_write_81 : decode cX6_write 81 = .ok (.aload_n 0, 1) := by decide +kernel
theorem dX6_write_82 : decode cX6_write 82 = .ok (.dup, 1) := by decide +kernel
theorem dX6_write_83 : decode cX6_write 83 = .ok (.getfield 231, 3) := by decide +kernel
theorem dX6_write_86 : decode cX6_write 86 = .ok (.dup_x1, 1) := by decide +kernel
theorem dX6_write_87 : decode cX6_write 87 = .ok (.iconst 1, 1) := by decide +kernel
theorem dX6_write_88 : decode cX6_write 88 = .ok (.iadd, 1) := by decide +kernel
theorem dX6_write_89 : decode cX6_write 89 = .ok (.putfield 231, 3) := by decide +kernel
theorem dX6_write_92 : decode cX6_write 92 = .ok (.bipush 58, 2) := by decide +kernel
theorem dX6_write_94 : decode cX6_write 94 = .ok (.iastore, 1) := by decide +kernel
theorem dX6_write_95 : decode cX6_write 95 = .ok (.aload_n 0, 1) := by decide +kernel
theorem dX6_write_96 : decode cX6_write 96 = .ok (.aload_n 0, 1) := by decide +kernel
theorem dX6_write_97 : decode cX6_write 97 = .ok (.getfield 28, 3) := by decide +kernel
theorem dX6_write_100 : decode cX6_write 100 = .ok (.iload_n 2, 1) := by decide +kernel
theorem dX6_write_101 : decode cX6_write 101 = .ok (.iaload, 1) := by decide +kernel
theorem dX6_write_102 : decode cX6_write 102 = .ok (.invokevirtual 227, 3) := by decide +kernel
theorem dX6_write_105 : decode cX6_write 105 = .ok (.aload_n 0, 1) := by decide +kernel
theorem dX6_write_106 : decode cX6_write 106 = .ok (.iload_n 1, 1) := by decide +kernel
theorem dX6_write_107 : decode cX6_write 107 = .ok (.iload_n 2, 1) := by decide +kernel
theorem dX6_write_108 : decode cX6_write 108 = .ok (.invokevirtual 120, 3) := by decide +kernel
theorem dX6_write_111 : decode cX6_write 111 = .ok (.aload_n 0, 1) := by decide +kernel
theorem dX6_write_112 : decode cX6_write 112 = .ok (.iload_n 1, 1) := by decide +kernel
theorem dX6_write_113 : decode cX6_write 113 = .ok (.iload_n 2, 1) := by decide +kernel
theorem dX6_write_114 : decode cX6_write 114 = .ok (.invokevirtual 117, 3) := by decide +kernel
theorem dX6_write_117 : decode cX6_write 117 = .ok (.if_icmp .le 21, 3) := by decide +kernel
theorem dX6_write_120 : decode cX6_write 120 = .ok (.aload_n 0, 1) := by decide +kernel
theorem dX6_write_121 : decode cX6_write 121 = .ok (.getfield 25, 3) := by decide +kernel
theorem dX6_write_124 : decode cX6_write 124 = .ok (.aload_n 0, 1) := by decide +kernel
theorem dX6_write_125 : decode cX6_write 125 = .ok (.dup, 1) := by decide +kernel
theorem dX6_write_126 : decode cX6_write 126 = .ok (.getfield 231, 3) := by decide +kernel
theorem dX6_write_129 : decode cX6_write 129 = .ok (.dup_x1, 1) := by decide +kernel
theorem dX6_write_130 : decode cX6_write 130 = .ok (.iconst 1, 1) := by decide +kernel
theorem dX6_write_131 : decode cX6_write 131 = .ok (.iadd, 1) := by decide +kernel
theorem dX6_write_132 : decode cX6_write 132 = .ok (.putfield 231, 3) := by decide +kernel
theorem dX6_write_135 : decode cX6_write 135 = .ok (.bipush 114, 2) := by decide +kernel
theorem dX6_write_137 : decode cX6_write 137 = .ok (.iastore, 1) := by decide +kernel
theorem dX6_write_138 : decode cX6_write 138 = .ok (.aload_n 0, 1) := by decide +kernel
theorem dX6_write_139 : decode cX6_write 139 = .ok (.getfield 31, 3) := by decide +kernel
theorem dX6_write_142 : decode cX6_write 142 = .ok (.iload_n 2, 1) := by decide +kernel
theorem dX6_write_143 : decode cX6_write 143 = .ok (.iaload, 1) := by decide +kernel
theorem dX6_write_144 : decode cX6_write 144 = .ok (.iconst 1, 1) := by decide +kernel
theorem dX6_write_145 : decode cX6_write 145 = .ok (.if_icmp .le 36, 3) := by decide +kernel
theorem dX6_write_148 : decode cX6_write 148 = .ok (.aload_n 0, 1) := by decide +kernel
theorem dX6_write_149 : decode cX6_write 149 = .ok (.getfield 25, 3) := by decide +kernel
theorem dX6_write_152 : decode cX6_write 152 = .ok (.aload_n 0, 1) := by decide +kernel
theorem dX6_write_153 : decode cX6_write 153 = .ok (.dup, 1) := by decide +kernel
theorem dX6_write_154 : decode cX6_write 154 = .ok (.getfield 231, 3) := by decide +kernel
theorem dX6_write_157 : decode cX6_write 157 = .ok (.dup_x1, 1) := by decide +kernel
theorem dX6_write_158 : decode cX6_write 158 = .ok (.iconst 1, 1) := by decide +kernel
theorem dX6_write_159 : decode cX6_write 159 = .ok (.iadd, 1) := by decide +kernel
theorem dX6_write_160 : decode cX6_write 160 = .ok (.putfield 231, 3) := by decide +kernel
theorem dX6_write_163 : decode cX6_write 163 = .ok (.aload_n 0, 1) := by decide +kernel
theorem dX6_write_164 : decode cX6_write 164 = .ok (.getfield 31, 3) := by decide +kernel
theorem dX6_write_167 : decode cX6_write 167 = .ok (.iload_n 2, 1) := by decide +kernel
theorem dX6_write_168 : decode cX6_write 168 = .ok (.iaload, 1) := by decide +kernel
theorem dX6_write_169 : decode cX6_write 169 = .ok (.iconst 2, 1) := by decide +kernel
theorem dX6_write_170 : decode cX6_write 170 = .ok (.if_icmp .ne 8, 3) := by decide +kernel
theorem dX6_write_173 : decode cX6_write 173 = .ok (.bipush 99, 2) := by decide +kernel
theorem dX6_write_175 : decode cX6_write 175 = .ok (.goto 5, 3) := by decide +kernel
theorem dX6_write_178 : decode cX6_write 178 = .ok (.bipush 102, 2) := by decide +kernel
theorem dX6_write_180 : decode cX6_write 180 = .ok (.iastore, 1) := by decide +kernel
theorem dX6_write_181 : decode cX6_write 181 = .ok (.iinc 2 1, 3) := by decide +kernel
theorem dX6_write_184 : decode cX6_write 184 = .ok (.goto (-160), 3) := by decide +kernel
theorem dX6_write_187 : decode cX6_write 187 = .ok (.aload_n 0, 1) := by decide +kernel
theorem dX6_write_188 : decode cX6_write 188 = .ok (.getfield 231, 3) := by decide +kernel
theorem dX6_write_191 : decode cX6_write 191 = .ok (.ireturn, 1) := by decide +kernel
theorem dX6_written_0 : decode cX6_written 0 = .ok (.iload_n 1, 1) := by decide +kernel
theorem dX6_written_1 : decode cX6_written 1 = .ok (.iconst 0, 1) := by decide +kernel
theorem dX6_written_2 : decode cX6_written 2 = .ok (.aload_n 0, 1) := by decide +kernel
theorem dX6_written_3 : decode cX6_written 3 = .ok (.getfield 231, 3) := by decide +kernel
theorem dX6_written_6 : decode cX6_written 6 = .ok (.iconst 1, 1) := by decide +kernel
theorem dX6_written_7 : decode cX6_written 7 = .ok (.isub, 1) := by decide +kernel
theorem dX6_written_8 : decode cX6_written 8 = .ok (.invokestatic 66, 3) := by decide +kernel
theorem dX6_written_11 : decode cX6_written 11 = .ok (.ifCond .eq 12, 3) := by decide +kernel
theorem dX6_written_14 : decode cX6_written 14 = .ok (.aload_n 0, 1) := by decide +kernel
theorem dX6_written_15 : decode cX6_written 15 = .ok (.getfield 25, 3) := by decide +kernel
theorem dX6_written_18 : decode cX6_written 18 = .ok (.iload_n 1, 1) := by decide +kernel
theorem dX6_written_19 : decode cX6_written 19 = .ok (.iaload, 1) := by decide +kernel
theorem dX6_written_20 : decode cX6_written 20 = .ok (.goto 4, 3) := by decide +kernel
theorem dX6_written_23 : decode cX6_written 23 = .ok (.iconst (-1), 1) := by decide +kernel
theorem dX6_written_24 : decode cX6_written 24 = .ok (.ireturn, 1) := by decide +kernel
theorem dX6_account_0 : decode cX6_account 0 = .ok (.iconst 0, 1) := by decide +kernel
theorem dX6_account_1 : decode cX6_account 1 = .ok (.istore_n 2, 1) := by decide +kernel
theorem dX6_account_2 : decode cX6_account 2 = .ok (.iload_n 1, 1) := by decide +kernel
theorem dX6_account_3 : decode cX6_account 3 = .ok (.tableswitch 269 0 10 #[57, 57, 57, 66, 74, 74, 74, 188, 224, 259, 264], 57) := by decide +kernel
theorem dX6_account_60 : decode cX6_account 60 = .ok (.aload_n 0, 1) := by decide +kernel
theorem dX6_account_61 : decode cX6_account 61 = .ok (.getfield 9, 3) := by decide +kernel
theorem dX6_account_64 : decode cX6_account 64 = .ok (.iconst 5, 1) := by decide +kernel
theorem dX6_account_65 : decode cX6_account 65 = .ok (.iload_n 1, 1) := by decide +kernel
theorem dX6_account_66 : decode cX6_account 66 = .ok (.iadd, 1) := by decide +kernel
theorem dX6_account_67 : decode cX6_account 67 = .ok (.iaload, 1) := by decide +kernel
theorem dX6_account_68 : decode cX6_account 68 = .ok (.ireturn, 1) := by decide +kernel
theorem dX6_account_69 : decode cX6_account 69 = .ok (.aload_n 0, 1) := by decide +kernel
theorem dX6_account_70 : decode cX6_account 70 = .ok (.getfield 9, 3) := by decide +kernel
theorem dX6_account_73 : decode cX6_account 73 = .ok (.bipush 8, 2) := by decide +kernel
theorem dX6_account_75 : decode cX6_account 75 = .ok (.iaload, 1) := by decide +kernel
theorem dX6_account_76 : decode cX6_account 76 = .ok (.ireturn, 1) := by decide +kernel
theorem dX6_account_77 : decode cX6_account 77 = .ok (.iconst 0, 1) := by decide +kernel
theorem dX6_account_78 : decode cX6_account 78 = .ok (.istore_n 3, 1) := by decide +kernel
theorem dX6_account_79 : decode cX6_account 79 = .ok (.iload_n 3, 1) := by decide +kernel
theorem dX6_account_80 : decode cX6_account 80 = .ok (.aload_n 0, 1) := by decide +kernel
theorem dX6_account_81 : decode cX6_account 81 = .ok (.getfield 9, 3) := by decide +kernel
theorem dX6_account_84 : decode cX6_account 84 = .ok (.bipush 8, 2) := by decide +kernel
theorem dX6_account_86 : decode cX6_account 86 = .ok (.iaload, 1) := by decide +kernel
theorem dX6_account_87 : decode cX6_account 87 = .ok (.if_icmp .ge 102, 3) := by decide +kernel
theorem dX6_account_90 : decode cX6_account 90 = .ok (.aload_n 0, 1) := by decide +kernel
theorem dX6_account_91 : decode cX6_account 91 = .ok (.getfield 9, 3) := by decide +kernel
theorem dX6_account_94 : decode cX6_account 94 = .ok (.sipush 585, 3) := by decide +kernel
theorem dX6_account_97 : decode cX6_account 97 = .ok (.iload_n 3, 1) := by decide +kernel
theorem dX6_account_98 : decode cX6_account 98 = .ok (.iadd, 1) := by decide +kernel
theorem dX6_account_99 : decode cX6_account 99 = .ok (.iaload, 1) := by decide +kernel
theorem dX6_account_100 : decode cX6_account 100 = .ok (.bipush 8, 2) := by decide +kernel
theorem dX6_account_102 : decode cX6_account 102 = .ok (.idiv, 1) := by decide +kernel
theorem dX6_account_103 : decode cX6_account 103 = .ok (.istore 4, 2) := by decide +kernel
theorem dX6_account_105 : decode cX6_account 105 = .ok (.aload_n 0, 1) := by decide +kernel
theorem dX6_account_106 : decode cX6_account 106 = .ok (.getfield 9, 3) := by decide +kernel
theorem dX6_account_109 : decode cX6_account 109 = .ok (.sipush 585, 3) := by decide +kernel
theorem dX6_account_112 : decode cX6_account 112 = .ok (.iload_n 3, 1) := by decide +kernel
theorem dX6_account_113 : decode cX6_account 113 = .ok (.iadd, 1) := by decide +kernel
theorem dX6_account_114 : decode cX6_account 114 = .ok (.iaload, 1) := by decide +kernel
theorem dX6_account_115 : decode cX6_account 115 = .ok (.bipush 8, 2) := by decide +kernel
theorem dX6_account_117 : decode cX6_account 117 = .ok (.irem, 1) := by decide +kernel
theorem dX6_account_118 : decode cX6_account 118 = .ok (.istore 5, 2) := by decide +kernel
theorem dX6_account_120 : decode cX6_account 120 = .ok (.iload_n 1, 1) := by decide +kernel
theorem dX6_account_121 : decode cX6_account 121 = .ok (.iconst 4, 1) := by decide +kernel
theorem dX6_account_122 : decode cX6_account 122 = .ok (.if_icmp .ne 20, 3) := by decide +kernel
theorem dX6_account_125 : decode cX6_account 125 = .ok (.aload_n 0, 1) := by decide +kernel
theorem dX6_account_126 : decode cX6_account 126 = .ok (.getfield 9, 3) := by decide +kernel
theorem dX6_account_129 : decode cX6_account 129 = .ok (.iload 4, 2) := by decide +kernel
theorem dX6_account_131 : decode cX6_account 131 = .ok (.iload 5, 2) := by decide +kernel
theorem dX6_account_133 : decode cX6_account 133 = .ok (.invokestatic 81, 3) := by decide +kernel
theorem dX6_account_136 : decode cX6_account 136 = .ok (.iconst 2, 1) := by decide +kernel
theorem dX6_account_137 : decode cX6_account 137 = .ok (.iadd, 1) := by decide +kernel
theorem dX6_account_138 : decode cX6_account 138 = .ok (.iaload, 1) := by decide +kernel
theorem dX6_account_139 : decode cX6_account 139 = .ok (.ifCond .ge 24, 3) := by decide +kernel
theorem dX6_account_142 : decode cX6_account 142 = .ok (.iload_n 1, 1) := by decide +kernel
theorem dX6_account_143 : decode cX6_account 143 = .ok (.iconst 5, 1) := by decide +kernel
theorem dX6_account_144 : decode cX6_account 144 = .ok (.if_icmp .ne 22, 3) := by decide +kernel
theorem dX6_account_147 : decode cX6_account 147 = .ok (.aload_n 0, 1) := by decide +kernel
theorem dX6_account_148 : decode cX6_account 148 = .ok (.getfield 9, 3) := by decide +kernel
theorem dX6_account_151 : decode cX6_account 151 = .ok (.iload 4, 2) := by decide +kernel
theorem dX6_account_153 : decode cX6_account 153 = .ok (.iload 5, 2) := by decide +kernel
theorem dX6_account_155 : decode cX6_account 155 = .ok (.invokestatic 81, 3) := by decide +kernel
theorem dX6_account_158 : decode cX6_account 158 = .ok (.iaload, 1) := by decide +kernel
theorem dX6_account_159 : decode cX6_account 159 = .ok (.iconst 1, 1) := by decide +kernel
theorem dX6_account_160 : decode cX6_account 160 = .ok (.if_icmp .le 6, 3) := by decide +kernel
theorem dX6_account_163 : decode cX6_account 163 = .ok (.iinc 2 1, 3) := by decide +kernel
theorem dX6_account_166 : decode cX6_account 166 = .ok (.iload_n 1, 1) := by decide +kernel
theorem dX6_account_167 : decode cX6_account 167 = .ok (.bipush 6, 2) := by decide +kernel
theorem dX6_account_169 : decode cX6_account 169 = .ok (.if_icmp .ne 14, 3) := by decide +kernel
theorem dX6_account_172 : decode cX6_account 172 = .ok (.iload_n 2, 1) := by decide +kernel
theorem dX6_account_173 : decode cX6_account 173 = .ok (.aload_n 0, 1) := by decide +kernel
theorem dX6_account_174 : decode cX6_account 174 = .ok (.iload 4, 2) := by decide +kernel
theorem dX6_account_176 : decode cX6_account 176 = .ok (.iload 5, 2) := by decide +kernel
theorem dX6_account_178 : decode cX6_account 178 = .ok (.invokevirtual 129, 3) := by decide +kernel
theorem dX6_account_181 : decode cX6_account 181 = .ok (.iadd, 1) := by decide +kernel
theorem dX6_account_182 : decode cX6_account 182 = .ok (.istore_n 2, 1) := by decide +kernel
theorem dX6_account_183 : decode cX6_account 183 = .ok (.iinc 3 1, 3) := by decide +kernel
theorem dX6_account_186 : decode cX6_account 186 = .ok (.goto (-107), 3) := by decide +kernel
theorem dX6_account_189 : decode cX6_account 189 = .ok (.iload_n 2, 1) := by decide +kernel
theorem dX6_account_190 : decode cX6_account 190 = .ok (.ireturn, 1) := by decide +kernel
theorem dX6_account_191 : decode cX6_account 191 = .ok (.iconst 0, 1) := by decide +kernel
theorem dX6_account_192 : decode cX6_account 192 = .ok (.istore_n 3, 1) := by decide +kernel
theorem dX6_account_193 : decode cX6_account 193 = .ok (.iload_n 3, 1) := by decide +kernel
theorem dX6_account_194 : decode cX6_account 194 = .ok (.aload_n 0, 1) := by decide +kernel
theorem dX6_account_195 : decode cX6_account 195 = .ok (.getfield 9, 3) := by decide +kernel
theorem dX6_account_198 : decode cX6_account 198 = .ok (.iconst 5, 1) := by decide +kernel
theorem dX6_account_199 : decode cX6_account 199 = .ok (.iaload, 1) := by decide +kernel
theorem dX6_account_200 : decode cX6_account 200 = .ok (.if_icmp .ge 25, 3) := by decide +kernel
theorem dX6_account_203 : decode cX6_account 203 = .ok (.aload_n 0, 1) := by decide +kernel
theorem dX6_account_204 : decode cX6_account 204 = .ok (.iload_n 3, 1) := by decide +kernel
theorem dX6_account_205 : decode cX6_account 205 = .ok (.invokevirtual 143, 3) := by decide +kernel
theorem dX6_account_208 : decode cX6_account 208 = .ok (.ifCond .eq 11, 3) := by decide +kernel
theorem dX6_account_211 : decode cX6_account 211 = .ok (.iload_n 2, 1) := by decide +kernel
theorem dX6_account_212 : decode cX6_account 212 = .ok (.aload_n 0, 1) := by decide +kernel
theorem dX6_account_213 : decode cX6_account 213 = .ok (.iload_n 3, 1) := by decide +kernel
theorem dX6_account_214 : decode cX6_account 214 = .ok (.invokevirtual 146, 3) := by decide +kernel
theorem dX6_account_217 : decode cX6_account 217 = .ok (.iadd, 1) := by decide +kernel
theorem dX6_account_218 : decode cX6_account 218 = .ok (.istore_n 2, 1) := by decide +kernel
theorem dX6_account_219 : decode cX6_account 219 = .ok (.iinc 3 1, 3) := by decide +kernel
theorem dX6_account_222 : decode cX6_account 222 = .ok (.goto (-29), 3) := by decide +kernel
theorem dX6_account_225 : decode cX6_account 225 = .ok (.iload_n 2, 1) := by decide +kernel
theorem dX6_account_226 : decode cX6_account 226 = .ok (.ireturn, 1) := by decide +kernel
theorem dX6_account_227 : decode cX6_account 227 = .ok (.iconst 0, 1) := by decide +kernel
theorem dX6_account_228 : decode cX6_account 228 = .ok (.istore_n 3, 1) := by decide +kernel
theorem dX6_account_229 : decode cX6_account 229 = .ok (.iload_n 3, 1) := by decide +kernel
theorem dX6_account_230 : decode cX6_account 230 = .ok (.aload_n 0, 1) := by decide +kernel
theorem dX6_account_231 : decode cX6_account 231 = .ok (.getfield 9, 3) := by decide +kernel
theorem dX6_account_234 : decode cX6_account 234 = .ok (.bipush 7, 2) := by decide +kernel
theorem dX6_account_236 : decode cX6_account 236 = .ok (.iaload, 1) := by decide +kernel
theorem dX6_account_237 : decode cX6_account 237 = .ok (.if_icmp .ge 23, 3) := by decide +kernel
theorem dX6_account_240 : decode cX6_account 240 = .ok (.aload_n 0, 1) := by decide +kernel
theorem dX6_account_241 : decode cX6_account 241 = .ok (.iload_n 3, 1) := by decide +kernel
theorem dX6_account_242 : decode cX6_account 242 = .ok (.iconst (-1), 1) := by decide +kernel
theorem dX6_account_243 : decode cX6_account 243 = .ok (.iconst 0, 1) := by decide +kernel
theorem dX6_account_244 : decode cX6_account 244 = .ok (.invokevirtual 90, 3) := by decide +kernel
theorem dX6_account_247 : decode cX6_account 247 = .ok (.iload_n 2, 1) := by decide +kernel
theorem dX6_account_248 : decode cX6_account 248 = .ok (.aload_n 0, 1) := by decide +kernel
theorem dX6_account_249 : decode cX6_account 249 = .ok (.invokevirtual 202, 3) := by decide +kernel
theorem dX6_account_252 : decode cX6_account 252 = .ok (.iadd, 1) := by decide +kernel
theorem dX6_account_253 : decode cX6_account 253 = .ok (.istore_n 2, 1) := by decide +kernel
theorem dX6_account_254 : decode cX6_account 254 = .ok (.iinc 3 1, 3) := by decide +kernel
theorem dX6_account_257 : decode cX6_account 257 = .ok (.goto (-28), 3) := by decide +kernel
theorem dX6_account_260 : decode cX6_account 260 = .ok (.iload_n 2, 1) := by decide +kernel
theorem dX6_account_261 : decode cX6_account 261 = .ok (.ireturn, 1) := by decide +kernel
theorem dX6_account_262 : decode cX6_account 262 = .ok (.aload_n 0, 1) := by decide +kernel
theorem dX6_account_263 : decode cX6_account 263 = .ok (.getfield 206, 3) := by decide +kernel
theorem dX6_account_266 : decode cX6_account 266 = .ok (.ireturn, 1) := by decide +kernel
theorem dX6_account_267 : decode cX6_account 267 = .ok (.aload_n 0, 1) := by decide +kernel
theorem dX6_account_268 : decode cX6_account 268 = .ok (.getfield 50, 3) := by decide +kernel
theorem dX6_account_271 : decode cX6_account 271 = .ok (.ireturn, 1) := by decide +kernel
theorem dX6_account_272 : decode cX6_account 272 = .ok (.iload_n 1, 1) := by decide +kernel
theorem dX6_account_273 : decode cX6_account 273 = .ok (.bipush 11, 2) := by decide +kernel
theorem dX6_account_275 : decode cX6_account 275 = .ok (.bipush 15, 2) := by decide +kernel
theorem dX6_account_277 : decode cX6_account 277 = .ok (.invokestatic 66, 3) := by decide +kernel
theorem dX6_account_280 : decode cX6_account 280 = .ok (.ifCond .eq 15, 3) := by decide +kernel
theorem dX6_account_283 : decode cX6_account 283 = .ok (.aload_n 0, 1) := by decide +kernel
theorem dX6_account_284 : decode cX6_account 284 = .ok (.getfield 9, 3) := by decide +kernel
theorem dX6_account_287 : decode cX6_account 287 = .ok (.iload_n 1, 1) := by decide +kernel
theorem dX6_account_288 : decode cX6_account 288 = .ok (.bipush 11, 2) := by decide +kernel
theorem dX6_account_290 : decode cX6_account 290 = .ok (.isub, 1) := by decide +kernel
theorem dX6_account_291 : decode cX6_account 291 = .ok (.iaload, 1) := by decide +kernel
theorem dX6_account_292 : decode cX6_account 292 = .ok (.goto 5, 3) := by decide +kernel
theorem dX6_account_295 : decode cX6_account 295 = .ok (.bipush (-2), 2) := by decide +kernel
theorem dX6_account_297 : decode cX6_account 297 = .ok (.ireturn, 1) := by decide +kernel
theorem dX6_undo_0 : decode cX6_undo 0 = .ok (.aload_n 0, 1) := by decide +kernel
theorem dX6_undo_1 : decode cX6_undo 1 = .ok (.getfield 50, 3) := by decide +kernel
theorem dX6_undo_4 : decode cX6_undo 4 = .ok (.ifCond .ne 6, 3) := by decide +kernel
theorem dX6_undo_7 : decode cX6_undo 7 = .ok (.bipush (-5), 2) := by decide +kernel
theorem dX6_undo_9 : decode cX6_undo 9 = .ok (.ireturn, 1) := by decide +kernel
theorem dX6_undo_10 : decode cX6_undo 10 = .ok (.aload_n 0, 1) := by decide +kernel
theorem dX6_undo_11 : decode cX6_undo 11 = .ok (.dup, 1) := by decide +kernel
theorem dX6_undo_12 : decode cX6_undo 12 = .ok (.getfield 50, 3) := by decide +kernel
theorem dX6_undo_15 : decode cX6_undo 15 = .ok (.iconst 1, 1) := by decide +kernel
theorem dX6_undo_16 : decode cX6_undo 16 = .ok (.isub, 1) := by decide +kernel
theorem dX6_undo_17 : decode cX6_undo 17 = .ok (.putfield 50, 3) := by decide +kernel
theorem dX6_undo_20 : decode cX6_undo 20 = .ok (.iconst 0, 1) := by decide +kernel
theorem dX6_undo_21 : decode cX6_undo 21 = .ok (.istore_n 1, 1) := by decide +kernel
theorem dX6_undo_22 : decode cX6_undo 22 = .ok (.iload_n 1, 1) := by decide +kernel
theorem dX6_undo_23 : decode cX6_undo 23 = .ok (.sipush 745, 3) := by decide +kernel
theorem dX6_undo_26 : decode cX6_undo 26 = .ok (.if_icmp .ge 30, 3) := by decide +kernel
theorem dX6_undo_29 : decode cX6_undo 29 = .ok (.aload_n 0, 1) := by decide +kernel
theorem dX6_undo_30 : decode cX6_undo 30 = .ok (.getfield 9, 3) := by decide +kernel
theorem dX6_undo_33 : decode cX6_undo 33 = .ok (.iload_n 1, 1) := by decide +kernel
theorem dX6_undo_34 : decode cX6_undo 34 = .ok (.aload_n 0, 1) := by decide +kernel
theorem dX6_undo_35 : decode cX6_undo 35 = .ok (.getfield 13, 3) := by decide +kernel
theorem dX6_undo_38 : decode cX6_undo 38 = .ok (.sipush 745, 3) := by decide +kernel
theorem dX6_undo_41 : decode cX6_undo 41 = .ok (.aload_n 0, 1) := by decide +kernel
theorem dX6_undo_42 : decode cX6_undo 42 = .ok (.getfield 50, 3) := by decide +kernel
theorem dX6_undo_45 : decode cX6_undo 45 = .ok (.imul, 1) := by decide +kernel
theorem dX6_undo_46 : decode cX6_undo 46 = .ok (.iload_n 1, 1) := by decide +kernel
theorem dX6_undo_47 : decode cX6_undo 47 = .ok (.iadd, 1) := by decide +kernel
theorem dX6_undo_48 : decode cX6_undo 48 = .ok (.iaload, 1) := by decide +kernel
theorem dX6_undo_49 : decode cX6_undo 49 = .ok (.iastore, 1) := by decide +kernel
theorem dX6_undo_50 : decode cX6_undo 50 = .ok (.iinc 1 1, 3) := by decide +kernel
theorem dX6_undo_53 : decode cX6_undo 53 = .ok (.goto (-31), 3) := by decide +kernel
theorem dX6_undo_56 : decode cX6_undo 56 = .ok (.aload_n 0, 1) := by decide +kernel
theorem dX6_undo_57 : decode cX6_undo 57 = .ok (.getfield 50, 3) := by decide +kernel
theorem dX6_undo_60 : decode cX6_undo 60 = .ok (.ireturn, 1) := by decide +kernel
theorem dX6_save_0 : decode cX6_save 0 = .ok (.aload_n 0, 1) := by decide +kernel
theorem dX6_save_1 : decode cX6_save 1 = .ok (.iconst 1, 1) := by decide +kernel
theorem dX6_save_2 : decode cX6_save 2 = .ok (.putfield 234, 3) := by decide +kernel
theorem dX6_save_5 : decode cX6_save 5 = .ok (.iconst 0, 1) := by decide +kernel
theorem dX6_save_6 : decode cX6_save 6 = .ok (.istore_n 1, 1) := by decide +kernel
theorem dX6_save_7 : decode cX6_save 7 = .ok (.iload_n 1, 1) := by decide +kernel
theorem dX6_save_8 : decode cX6_save 8 = .ok (.sipush 745, 3) := by decide +kernel
theorem dX6_save_11 : decode cX6_save 11 = .ok (.if_icmp .ge 21, 3) := by decide +kernel
theorem dX6_save_14 : decode cX6_save 14 = .ok (.aload_n 0, 1) := by decide +kernel
theorem dX6_save_15 : decode cX6_save 15 = .ok (.getfield 16, 3) := by decide +kernel
theorem dX6_save_18 : decode cX6_save 18 = .ok (.iload_n 1, 1) := by decide +kernel
theorem dX6_save_19 : decode cX6_save 19 = .ok (.aload_n 0, 1) := by decide +kernel
theorem dX6_save_20 : decode cX6_save 20 = .ok (.getfield 9, 3) := by decide +kernel
theorem dX6_save_23 : decode cX6_save 23 = .ok (.iload_n 1, 1) := by decide +kernel
theorem dX6_save_24 : decode cX6_save 24 = .ok (.iaload, 1) := by decide +kernel
theorem dX6_save_25 : decode cX6_save 25 = .ok (.iastore, 1) := by decide +kernel
theorem dX6_save_26 : decode cX6_save 26 = .ok (.iinc 1 1, 3) := by decide +kernel
theorem dX6_save_29 : decode cX6_save 29 = .ok (.goto (-22), 3) := by decide +kernel
theorem dX6_save_32 : decode cX6_save 32 = .ok (.aload_n 0, 1) := by decide +kernel
theorem dX6_save_33 : decode cX6_save 33 = .ok (.getfield 9, 3) := by decide +kernel
theorem dX6_save_36 : decode cX6_save 36 = .ok (.bipush 7, 2) := by decide +kernel
theorem dX6_save_38 : decode cX6_save 38 = .ok (.iaload, 1) := by decide +kernel
theorem dX6_save_39 : decode cX6_save 39 = .ok (.ireturn, 1) := by decide +kernel
theorem dX6_restore_0 : decode cX6_restore 0 = .ok (.aload_n 0, 1) := by decide +kernel
theorem dX6_restore_1 : decode cX6_restore 1 = .ok (.getfield 234, 3) := by decide +kernel
theorem dX6_restore_4 : decode cX6_restore 4 = .ok (.ifCond .ne 6, 3) := by decide +kernel
theorem dX6_restore_7 : decode cX6_restore 7 = .ok (.bipush (-5), 2) := by decide +kernel
theorem dX6_restore_9 : decode cX6_restore 9 = .ok (.ireturn, 1) := by decide +kernel
theorem dX6_restore_10 : decode cX6_restore 10 = .ok (.iconst 0, 1) := by decide +kernel
theorem dX6_restore_11 : decode cX6_restore 11 = .ok (.istore_n 1, 1) := by decide +kernel
theorem dX6_restore_12 : decode cX6_restore 12 = .ok (.iload_n 1, 1) := by decide +kernel
theorem dX6_restore_13 : decode cX6_restore 13 = .ok (.sipush 745, 3) := by decide +kernel
theorem dX6_restore_16 : decode cX6_restore 16 = .ok (.if_icmp .ge 21, 3) := by decide +kernel
theorem dX6_restore_19 : decode cX6_restore 19 = .ok (.aload_n 0, 1) := by decide +kernel
theorem dX6_restore_20 : decode cX6_restore 20 = .ok (.getfield 9, 3) := by decide +kernel
theorem dX6_restore_23 : decode cX6_restore 23 = .ok (.iload_n 1, 1) := by decide +kernel
theorem dX6_restore_24 : decode cX6_restore 24 = .ok (.aload_n 0, 1) := by decide +kernel
theorem dX6_restore_25 : decode cX6_restore 25 = .ok (.getfield 16, 3) := by decide +kernel
theorem dX6_restore_28 : decode cX6_restore 28 = .ok (.iload_n 1, 1) := by decide +kernel
theorem dX6_restore_29 : decode cX6_restore 29 = .ok (.iaload, 1) := by decide +kernel
theorem dX6_restore_30 : decode cX6_restore 30 = .ok (.iastore, 1) := by decide +kernel
theorem dX6_restore_31 : decode cX6_restore 31 = .ok (.iinc 1 1, 3) := by decide +kernel
theorem dX6_restore_34 : decode cX6_restore 34 = .ok (.goto (-22), 3) := by decide +kernel
theorem dX6_restore_37 : decode cX6_restore 37 = .ok (.aload_n 0, 1) := by decide +kernel
theorem dX6_restore_38 : decode cX6_restore 38 = .ok (.iconst 0, 1) := by decide +kernel
theorem dX6_restore_39 : decode cX6_restore 39 = .ok (.putfield 50, 3) := by decide +kernel
theorem dX6_restore_42 : decode cX6_restore 42 = .ok (.aload_n 0, 1) := by decide +kernel
theorem dX6_restore_43 : decode cX6_restore 43 = .ok (.getfield 9, 3) := by decide +kernel
theorem dX6_restore_46 : decode cX6_restore 46 = .ok (.bipush 7, 2) := by decide +kernel
theorem dX6_restore_48 : decode cX6_restore 48 = .ok (.iaload, 1) := by decide +kernel
theorem dX6_restore_49 : decode cX6_restore 49 = .ok (.ireturn, 1) := by decide +kernel
