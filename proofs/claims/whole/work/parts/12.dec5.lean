theorem dX5_init_0 : decode cX5_init 0 = .ok (.aload_n 0, 1) := by decide +kernel
theorem dX5_init_1 : decode cX5_init 1 = .ok (.invokespecial 3, 3) := by decide +kernel
theorem dX5_init_4 : decode cX5_init 4 = .ok (.aload_n 0, 1) := by decide +kernel
theorem dX5_init_5 : decode cX5_init 5 = .ok (.new 9, 3) := by decide +kernel
theorem dX5_init_8 : decode cX5_init 8 = .ok (.dup, 1) := by decide +kernel
theorem dX5_init_9 : decode cX5_init 9 = .ok (.invokespecial 11, 3) := by decide +kernel
theorem dX5_init_12 : decode cX5_init 12 = .ok (.putfield 12, 3) := by decide +kernel
theorem dX5_init_15 : decode cX5_init 15 = .ok (.aload_n 0, 1) := by decide +kernel
theorem dX5_init_16 : decode cX5_init 16 = .ok (.new 9, 3) := by decide +kernel
theorem dX5_init_19 : decode cX5_init 19 = .ok (.dup, 1) := by decide +kernel
theorem dX5_init_20 : decode cX5_init 20 = .ok (.invokespecial 11, 3) := by decide +kernel
theorem dX5_init_23 : decode cX5_init 23 = .ok (.putfield 16, 3) := by decide +kernel
theorem dX5_init_26 : decode cX5_init 26 = .ok (.aload_n 0, 1) := by decide +kernel
theorem dX5_init_27 : decode cX5_init 27 = .ok (.iconst 0, 1) := by decide +kernel
theorem dX5_init_28 : decode cX5_init 28 = .ok (.putfield 19, 3) := by decide +kernel
theorem dX5_init_31 : decode cX5_init 31 = .ok (.aload_n 0, 1) := by decide +kernel
theorem dX5_init_32 : decode cX5_init 32 = .ok (.new 23, 3) := by decide +kernel
theorem dX5_init_35 : decode cX5_init 35 = .ok (.dup, 1) := by decide +kernel
theorem dX5_init_36 : decode cX5_init 36 = .ok (.invokespecial 25, 3) := by decide +kernel
theorem dX5_init_39 : decode cX5_init 39 = .ok (.putfield 26, 3) := by decide +kernel
theorem dX5_init_42 : decode cX5_init 42 = .ok (.aload_n 0, 1) := by decide +kernel
theorem dX5_init_43 : decode cX5_init 43 = .ok (.new 30, 3) := by decide +kernel
theorem dX5_init_46 : decode cX5_init 46 = .ok (.dup, 1) := by decide +kernel
theorem dX5_init_47 : decode cX5_init 47 = .ok (.invokespecial 32, 3) := by decide +kernel
theorem dX5_init_50 : decode cX5_init 50 = .ok (.putfield 33, 3) := by decide +kernel
theorem dX5_init_53 : decode cX5_init 53 = .ok (.aload_n 0, 1) := by decide +kernel
theorem dX5_init_54 : decode cX5_init 54 = .ok (.new 37, 3) := by decide +kernel
theorem dX5_init_57 : decode cX5_init 57 = .ok (.dup, 1) := by decide +kernel
theorem dX5_init_58 : decode cX5_init 58 = .ok (.invokespecial 39, 3) := by decide +kernel
theorem dX5_init_61 : decode cX5_init 61 = .ok (.putfield 40, 3) := by decide +kernel
theorem dX5_init_64 : decode cX5_init 64 = .ok (.aload_n 0, 1) := by decide +kernel
theorem dX5_init_65 : decode cX5_init 65 = .ok (.new 44, 3) := by decide +kernel
theorem dX5_init_68 : decode cX5_init 68 = .ok (.dup, 1) := by decide +kernel
theorem dX5_init_69 : decode cX5_init 69 = .ok (.invokespecial 46, 3) := by decide +kernel
theorem dX5_init_72 : decode cX5_init 72 = .ok (.putfield 47, 3) := by decide +kernel
theorem dX5_init_75 : decode cX5_init 75 = .ok (.aload_n 0, 1) := by decide +kernel
theorem dX5_init_76 : decode cX5_init 76 = .ok (.new 51, 3) := by decide +kernel
theorem dX5_init_79 : decode cX5_init 79 = .ok (.dup, 1) := by decide +kernel
theorem dX5_init_80 : decode cX5_init 80 = .ok (.invokespecial 53, 3) := by decide +kernel
theorem dX5_init_83 : decode cX5_init 83 = .ok (.putfield 54, 3) := by decide +kernel
theorem dX5_init_86 : decode cX5_init 86 = .ok (.aload_n 0, 1) := by decide +kernel
theorem dX5_init_87 : decode cX5_init 87 = .ok (.iconst 0, 1) := by decide +kernel
theorem dX5_init_88 : decode cX5_init 88 = .ok (.putfield 58, 3) := by decide +kernel
theorem dX5_init_91 : decode cX5_init 91 = .ok (.aload_n 0, 1) := by decide +kernel
theorem dX5_init_92 : decode cX5_init 92 = .ok (.iconst 0, 1) := by decide +kernel
theorem dX5_init_93 : decode cX5_init 93 = .ok (.putfield 62, 3) := by decide +kernel
theorem dX5_init_96 : decode cX5_init 96 = .ok (.aload_n 0, 1) := by decide +kernel
theorem dX5_init_97 : decode cX5_init 97 = .ok (.iconst 0, 1) := by decide +kernel
theorem dX5_init_98 : decode cX5_init 98 = .ok (.putfield 65, 3) := by decide +kernel
theorem dX5_init_101 : decode cX5_init 101 = .ok (.return_, 1) := by decide +kernel
theorem dX5_set_0 : decode cX5_set 0 = .ok (.iload_n 1, 1) := by decide +kernel
theorem dX5_set_1 : decode cX5_set 1 = .ok (.iload_n 2, 1) := by decide +kernel
theorem dX5_set_2 : decode cX5_set 2 = .ok (.invokestatic 68, 3) := by decide +kernel
theorem dX5_set_5 : decode cX5_set 5 = .ok (.ifCond .ne 6, 3) := by decide +kernel
theorem dX5_set_8 : decode cX5_set 8 = .ok (.bipush (-2), 2) := by decide +kernel
theorem dX5_set_10 : decode cX5_set 10 = .ok (.ireturn, 1) := by decide +kernel
theorem dX5_set_11 : decode cX5_set 11 = .ok (.aload_n 0, 1) := by decide +kernel
theorem dX5_set_12 : decode cX5_set 12 = .ok (.getfield 12, 3) := by decide +kernel
theorem dX5_set_15 : decode cX5_set 15 = .ok (.getfield 72, 3) := by decide +kernel
theorem dX5_set_18 : decode cX5_set 18 = .ok (.iload_n 1, 1) := by decide +kernel
theorem dX5_set_19 : decode cX5_set 19 = .ok (.iaload, 1) := by decide +kernel
theorem dX5_set_20 : decode cX5_set 20 = .ok (.istore_n 3, 1) := by decide +kernel
theorem dX5_set_21 : decode cX5_set 21 = .ok (.aload_n 0, 1) := by decide +kernel
theorem dX5_set_22 : decode cX5_set 22 = .ok (.getfield 26, 3) := by decide +kernel
theorem dX5_set_25 : decode cX5_set 25 = .ok (.aload_n 0, 1) := by decide +kernel
theorem dX5_set_26 : decode cX5_set 26 = .ok (.getfield 12, 3) := by decide +kernel
theorem dX5_set_29 : decode cX5_set 29 = .ok (.invokevirtual 76, 3) := by decide +kernel
theorem dX5_set_32 : decode cX5_set 32 = .ok (.aload_n 0, 1) := by decide +kernel
theorem dX5_set_33 : decode cX5_set 33 = .ok (.getfield 12, 3) := by decide +kernel
theorem dX5_set_36 : decode cX5_set 36 = .ok (.getfield 72, 3) := by decide +kernel
theorem dX5_set_39 : decode cX5_set 39 = .ok (.iload_n 1, 1) := by decide +kernel
theorem dX5_set_40 : decode cX5_set 40 = .ok (.iload_n 2, 1) := by decide +kernel
theorem dX5_set_41 : decode cX5_set 41 = .ok (.iastore, 1) := by decide +kernel
theorem dX5_set_42 : decode cX5_set 42 = .ok (.iload_n 3, 1) := by decide +kernel
theorem dX5_set_43 : decode cX5_set 43 = .ok (.ireturn, 1) := by decide +kernel
theorem dX5_addModule_0 : decode cX5_addModule 0 = .ok (.iload_n 1, 1) := by decide +kernel
theorem dX5_addModule_1 : decode cX5_addModule 1 = .ok (.iconst 1, 1) := by decide +kernel
theorem dX5_addModule_2 : decode cX5_addModule 2 = .ok (.bipush 9, 2) := by decide +kernel
theorem dX5_addModule_4 : decode cX5_addModule 4 = .ok (.invokestatic 80, 3) := by decide +kernel
theorem dX5_addModule_7 : decode cX5_addModule 7 = .ok (.ifCond .ne 6, 3) := by decide +kernel
theorem dX5_addModule_10 : decode cX5_addModule 10 = .ok (.bipush (-2), 2) := by decide +kernel
theorem dX5_addModule_12 : decode cX5_addModule 12 = .ok (.ireturn, 1) := by decide +kernel
theorem dX5_addModule_13 : decode cX5_addModule 13 = .ok (.aload_n 0, 1) := by decide +kernel
theorem dX5_addModule_14 : decode cX5_addModule 14 = .ok (.getfield 12, 3) := by decide +kernel
theorem dX5_addModule_17 : decode cX5_addModule 17 = .ok (.getfield 84, 3) := by decide +kernel
theorem dX5_addModule_20 : decode cX5_addModule 20 = .ok (.iconst 4, 1) := by decide +kernel
theorem dX5_addModule_21 : decode cX5_addModule 21 = .ok (.if_icmp .lt 6, 3) := by decide +kernel
theorem dX5_addModule_24 : decode cX5_addModule 24 = .ok (.bipush (-3), 2) := by decide +kernel
theorem dX5_addModule_26 : decode cX5_addModule 26 = .ok (.ireturn, 1) := by decide +kernel
theorem dX5_addModule_27 : decode cX5_addModule 27 = .ok (.aload_n 0, 1) := by decide +kernel
theorem dX5_addModule_28 : decode cX5_addModule 28 = .ok (.getfield 26, 3) := by decide +kernel
theorem dX5_addModule_31 : decode cX5_addModule 31 = .ok (.aload_n 0, 1) := by decide +kernel
theorem dX5_addModule_32 : decode cX5_addModule 32 = .ok (.getfield 12, 3) := by decide +kernel
theorem dX5_addModule_35 : decode cX5_addModule 35 = .ok (.invokevirtual 76, 3) := by decide +kernel
theorem dX5_addModule_38 : decode cX5_addModule 38 = .ok (.aload_n 0, 1) := by decide +kernel
theorem dX5_addModule_39 : decode cX5_addModule 39 = .ok (.getfield 12, 3) := by decide +kernel
theorem dX5_addModule_42 : decode cX5_addModule 42 = .ok (.getfield 87, 3) := by decide +kernel
theorem dX5_addModule_45 : decode cX5_addModule 45 = .ok (.aload_n 0, 1) := by decide +kernel
theorem dX5_addModule_46 : decode cX5_addModule 46 = .ok (.getfield 12, 3) := by decide +kernel
theorem dX5_addModule_49 : decode cX5_addModule 49 = .ok (.getfield 84, 3) := by decide +kernel
theorem dX5_addModule_52 : decode cX5_addModule 52 = .ok (.iload_n 1, 1) := by decide +kernel
theorem dX5_addModule_53 : decode cX5_addModule 53 = .ok (.iastore, 1) := by decide +kernel
theorem dX5_addModule_54 : decode cX5_addModule 54 = .ok (.aload_n 0, 1) := by decide +kernel
theorem dX5_addModule_55 : decode cX5_addModule 55 = .ok (.getfield 12, 3) := by decide +kernel
theorem dX5_addModule_58 : decode cX5_addModule 58 = .ok (.dup, 1) := by decide +kernel
theorem dX5_addModule_59 : decode cX5_addModule 59 = .ok (.getfield 84, 3) := by decide +kernel
theorem dX5_addModule_62 : decode cX5_addModule 62 = .ok (.iconst 1, 1) := by decide +kernel
theorem dX5_addModule_63 : decode cX5_addModule 63 = .ok (.iadd, 1) := by decide +kernel
theorem dX5_addModule_64 : decode cX5_addModule 64 = .ok (.putfield 84, 3) := by decide +kernel
theorem dX5_addModule_67 : decode cX5_addModule 67 = .ok (.aload_n 0, 1) := by decide +kernel
theorem dX5_addModule_68 : decode cX5_addModule 68 = .ok (.getfield 12, 3) := by decide +kernel
theorem dX5_addModule_71 : decode cX5_addModule 71 = .ok (.getfield 84, 3) := by decide +kernel
theorem dX5_addModule_74 : decode cX5_addModule 74 = .ok (.iconst 1, 1) := by decide +kernel
theorem dX5_addModule_75 : decode cX5_addModule 75 = .ok (.isub, 1) := by decide +kernel
theorem dX5_addModule_76 : decode cX5_addModule 76 = .ok (.ireturn, 1) := by decide +kernel
theorem dX5_addPaper_0 : decode cX5_addPaper 0 = .ok (.aload_n 0, 1) := by decide +kernel
theorem dX5_addPaper_1 : decode cX5_addPaper 1 = .ok (.getfield 12, 3) := by decide +kernel
theorem dX5_addPaper_4 : decode cX5_addPaper 4 = .ok (.iload_n 1, 1) := by decide +kernel
theorem dX5_addPaper_5 : decode cX5_addPaper 5 = .ok (.invokevirtual 90, 3) := by decide +kernel
theorem dX5_addPaper_8 : decode cX5_addPaper 8 = .ok (.ifCond .ne 5, 3) := by decide +kernel
theorem dX5_addPaper_11 : decode cX5_addPaper 11 = .ok (.iconst (-1), 1) := by decide +kernel
theorem dX5_addPaper_12 : decode cX5_addPaper 12 = .ok (.ireturn, 1) := by decide +kernel
theorem dX5_addPaper_13 : decode cX5_addPaper 13 = .ok (.iload_n 2, 1) := by decide +kernel
theorem dX5_addPaper_14 : decode cX5_addPaper 14 = .ok (.iconst 1, 1) := by decide +kernel
theorem dX5_addPaper_15 : decode cX5_addPaper 15 = .ok (.bipush 9, 2) := by decide +kernel
theorem dX5_addPaper_17 : decode cX5_addPaper 17 = .ok (.invokestatic 80, 3) := by decide +kernel
theorem dX5_addPaper_20 : decode cX5_addPaper 20 = .ok (.ifCond .eq 15, 3) := by decide +kernel
theorem dX5_addPaper_23 : decode cX5_addPaper 23 = .ok (.iload_n 3, 1) := by decide +kernel
theorem dX5_addPaper_24 : decode cX5_addPaper 24 = .ok (.bipush 10, 2) := by decide +kernel
theorem dX5_addPaper_26 : decode cX5_addPaper 26 = .ok (.sipush 200, 3) := by decide +kernel
theorem dX5_addPaper_29 : decode cX5_addPaper 29 = .ok (.invokestatic 80, 3) := by decide +kernel
theorem dX5_addPaper_32 : decode cX5_addPaper 32 = .ok (.ifCond .ne 6, 3) := by decide +kernel
theorem dX5_addPaper_35 : decode cX5_addPaper 35 = .ok (.bipush (-2), 2) := by decide +kernel
theorem dX5_addPaper_37 : decode cX5_addPaper 37 = .ok (.ireturn, 1) := by decide +kernel
theorem dX5_addPaper_38 : decode cX5_addPaper 38 = .ok (.aload_n 0, 1) := by decide +kernel
theorem dX5_addPaper_39 : decode cX5_addPaper 39 = .ok (.getfield 12, 3) := by decide +kernel
theorem dX5_addPaper_42 : decode cX5_addPaper 42 = .ok (.getfield 94, 3) := by decide +kernel
theorem dX5_addPaper_45 : decode cX5_addPaper 45 = .ok (.bipush 8, 2) := by decide +kernel
theorem dX5_addPaper_47 : decode cX5_addPaper 47 = .ok (.if_icmp .lt 6, 3) := by decide +kernel
theorem dX5_addPaper_50 : decode cX5_addPaper 50 = .ok (.bipush (-3), 2) := by decide +kernel
theorem dX5_addPaper_52 : decode cX5_addPaper 52 = .ok (.ireturn, 1) := by decide +kernel
theorem dX5_addPaper_53 : decode cX5_addPaper 53 = .ok (.aload_n 0, 1) := by decide +kernel
theorem dX5_addPaper_54 : decode cX5_addPaper 54 = .ok (.getfield 26, 3) := by decide +kernel
theorem dX5_addPaper_57 : decode cX5_addPaper 57 = .ok (.aload_n 0, 1) := by decide +kernel
theorem dX5_addPaper_58 : decode cX5_addPaper 58 = .ok (.getfield 12, 3) := by decide +kernel
theorem dX5_addPaper_61 : decode cX5_addPaper 61 = .ok (.invokevirtual 76, 3) := by decide +kernel
theorem dX5_addPaper_64 : decode cX5_addPaper 64 = .ok (.aload_n 0, 1) := by decide +kernel
theorem dX5_addPaper_65 : decode cX5_addPaper 65 = .ok (.getfield 12, 3) := by decide +kernel
theorem dX5_addPaper_68 : decode cX5_addPaper 68 = .ok (.getfield 94, 3) := by decide +kernel
theorem dX5_addPaper_71 : decode cX5_addPaper 71 = .ok (.istore 4, 2) := by decide +kernel
theorem dX5_addPaper_73 : decode cX5_addPaper 73 = .ok (.aload_n 0, 1) := by decide +kernel
theorem dX5_addPaper_74 : decode cX5_addPaper 74 = .ok (.getfield 12, 3) := by decide +kernel
theorem dX5_addPaper_77 : decode cX5_addPaper 77 = .ok (.getfield 97, 3) := by decide +kernel
theorem dX5_addPaper_80 : decode cX5_addPaper 80 = .ok (.iload 4, 2) := by decide +kernel
theorem dX5_addPaper_82 : decode cX5_addPaper 82 = .ok (.iload_n 1, 1) := by decide +kernel
theorem dX5_addPaper_83 : decode cX5_addPaper 83 = .ok (.iastore, 1) := by decide +kernel
theorem dX5_addPaper_84 : decode cX5_addPaper 84 = .ok (.aload_n 0, 1) := by decide +kernel
theorem dX5_addPaper_85 : decode cX5_addPaper 85 = .ok (.getfield 12, 3) := by decide +kernel
theorem dX5_addPaper_88 : decode cX5_addPaper 88 = .ok (.getfield 100, 3) := by decide +kernel
theorem dX5_addPaper_91 : decode cX5_addPaper 91 = .ok (.iload 4, 2) := by decide +kernel
theorem dX5_addPaper_93 : decode cX5_addPaper 93 = .ok (.iload_n 2, 1) := by decide +kernel
theorem dX5_addPaper_94 : decode cX5_addPaper 94 = .ok (.iastore, 1) := by decide +kernel
theorem dX5_addPaper_95 : decode cX5_addPaper 95 = .ok (.aload_n 0, 1) := by decide +kernel
theorem dX5_addPaper_96 : decode cX5_addPaper 96 = .ok (.getfield 12, 3) := by decide +kernel
theorem dX5_addPaper_99 : decode cX5_addPaper 99 = .ok (.getfield 103, 3) := by decide +kernel
theorem dX5_addPaper_102 : decode cX5_addPaper 102 = .ok (.iload 4, 2) := by decide +kernel
theorem dX5_addPaper_104 : decode cX5_addPaper 104 = .ok (.iload_n 3, 1) := by decide +kernel
theorem dX5_addPaper_105 : decode cX5_addPaper 105 = .ok (.iastore, 1) := by decide +kernel
theorem dX5_addPaper_106 : decode cX5_addPaper 106 = .ok (.aload_n 0, 1) := by decide +kernel
theorem dX5_addPaper_107 : decode cX5_addPaper 107 = .ok (.getfield 12, 3) := by decide +kernel
theorem dX5_addPaper_110 : decode cX5_addPaper 110 = .ok (.dup, 1) := by decide +kernel
theorem dX5_addPaper_111 : decode cX5_addPaper 111 = .ok (.getfield 94, 3) := by decide +kernel
theorem dX5_addPaper_114 : decode cX5_addPaper 114 = .ok (.iconst 1, 1) := by decide +kernel
theorem dX5_addPaper_115 : decode cX5_addPaper 115 = .ok (.iadd, 1) := by decide +kernel
theorem dX5_addPaper_116 : decode cX5_addPaper 116 = .ok (.putfield 94, 3) := by decide +kernel
theorem dX5_addPaper_119 : decode cX5_addPaper 119 = .ok (.iload 4, 2) := by decide +kernel
theorem dX5_addPaper_121 : decode cX5_addPaper 121 = .ok (.ireturn, 1) := by decide +kernel
theorem dX5_addStudent_0 : decode cX5_addStudent 0 = .ok (.iload_n 1, 1) := by decide +kernel
theorem dX5_addStudent_1 : decode cX5_addStudent 1 = .ok (.invokestatic 106, 3) := by decide +kernel
theorem dX5_addStudent_4 : decode cX5_addStudent 4 = .ok (.ifCond .ne 6, 3) := by decide +kernel
theorem dX5_addStudent_7 : decode cX5_addStudent 7 = .ok (.bipush (-2), 2) := by decide +kernel
theorem dX5_addStudent_9 : decode cX5_addStudent 9 = .ok (.ireturn, 1) := by decide +kernel
theorem dX5_addStudent_10 : decode cX5_addStudent 10 = .ok (.aload_n 0, 1) := by decide +kernel
theorem dX5_addStudent_11 : decode cX5_addStudent 11 = .ok (.getfield 12, 3) := by decide +kernel
theorem dX5_addStudent_14 : decode cX5_addStudent 14 = .ok (.getfield 109, 3) := by decide +kernel
theorem dX5_addStudent_17 : decode cX5_addStudent 17 = .ok (.bipush 20, 2) := by decide +kernel
theorem dX5_addStudent_19 : decode cX5_addStudent 19 = .ok (.if_icmp .lt 6, 3) := by decide +kernel
theorem dX5_addStudent_22 : decode cX5_addStudent 22 = .ok (.bipush (-3), 2) := by decide +kernel
theorem dX5_addStudent_24 : decode cX5_addStudent 24 = .ok (.ireturn, 1) := by decide +kernel
theorem dX5_addStudent_25 : decode cX5_addStudent 25 = .ok (.aload_n 0, 1) := by decide +kernel
theorem dX5_addStudent_26 : decode cX5_addStudent 26 = .ok (.getfield 26, 3) := by decide +kernel
theorem dX5_addStudent_29 : decode cX5_addStudent 29 = .ok (.aload_n 0, 1) := by decide +kernel
theorem dX5_addStudent_30 : decode cX5_addStudent 30 = .ok (.getfield 12, 3) := by decide +kernel
theorem dX5_addStudent_33 : decode cX5_addStudent 33 = .ok (.invokevirtual 76, 3) := by decide +kernel
theorem dX5_addStudent_36 : decode cX5_addStudent 36 = .ok (.aload_n 0, 1) := by decide +kernel
theorem dX5_addStudent_37 : decode cX5_addStudent 37 = .ok (.getfield 12, 3) := by decide +kernel
theorem dX5_addStudent_40 : decode cX5_addStudent 40 = .ok (.getfield 112, 3) := by decide +kernel
theorem dX5_addStudent_43 : decode cX5_addStudent 43 = .ok (.aload_n 0, 1) := by decide +kernel
theorem dX5_addStudent_44 : decode cX5_addStudent 44 = .ok (.getfield 12, 3) := by decide +kernel
theorem dX5_addStudent_47 : decode cX5_addStudent 47 = .ok (.getfield 109, 3) := by decide +kernel
theorem dX5_addStudent_50 : decode cX5_addStudent 50 = .ok (.iload_n 1, 1) := by decide +kernel
theorem dX5_addStudent_51 : decode cX5_addStudent 51 = .ok (.iastore, 1) := by decide +kernel
theorem dX5_addStudent_52 : decode cX5_addStudent 52 = .ok (.aload_n 0, 1) := by decide +kernel
theorem dX5_addStudent_53 : decode cX5_addStudent 53 = .ok (.getfield 12, 3) := by decide +kernel
theorem dX5_addStudent_56 : decode cX5_addStudent 56 = .ok (.dup, 1) := by decide +kernel
theorem dX5_addStudent_57 : decode cX5_addStudent 57 = .ok (.getfield 109, 3) := by decide +kernel
theorem dX5_addStudent_60 : decode cX5_addStudent 60 = .ok (.iconst 1, 1) := by decide +kernel
theorem dX5_addStudent_61 : decode cX5_addStudent 61 = .ok (.iadd, 1) := by decide +kernel
theorem dX5_addStudent_62 : decode cX5_addStudent 62 = .ok (.putfield 109, 3) := by decide +kernel
theorem dX5_addStudent_65 : decode cX5_addStudent 65 = .ok (.aload_n 0, 1) := by decide +kernel
theorem dX5_addStudent_66 : decode cX5_addStudent 66 = .ok (.getfield 12, 3) := by decide +kernel
theorem dX5_addStudent_69 : decode cX5_addStudent 69 = .ok (.getfield 109, 3) := by decide +kernel
theorem dX5_addStudent_72 : decode cX5_addStudent 72 = .ok (.iconst 1, 1) := by decide +kernel
theorem dX5_addStudent_73 : decode cX5_addStudent 73 = .ok (.isub, 1) := by decide +kernel
theorem dX5_addStudent_74 : decode cX5_addStudent 74 = .ok (.ireturn, 1) := by decide +kernel
theorem dX5_paper_0 : decode cX5_paper 0 = .ok (.aload_n 0, 1) := by decide +kernel
theorem dX5_paper_1 : decode cX5_paper 1 = .ok (.getfield 12, 3) := by decide +kernel
theorem dX5_paper_4 : decode cX5_paper 4 = .ok (.iload_n 1, 1) := by decide +kernel
theorem dX5_paper_5 : decode cX5_paper 5 = .ok (.invokevirtual 115, 3) := by decide +kernel
theorem dX5_paper_8 : decode cX5_paper 8 = .ok (.ifCond .ne 5, 3) := by decide +kernel
theorem dX5_paper_11 : decode cX5_paper 11 = .ok (.iconst (-1), 1) := by decide +kernel
theorem dX5_paper_12 : decode cX5_paper 12 = .ok (.ireturn, 1) := by decide +kernel
theorem dX5_paper_13 : decode cX5_paper 13 = .ok (.iload_n 2, 1) := by decide +kernel
theorem dX5_paper_14 : decode cX5_paper 14 = .ok (.tableswitch 115 0 7 #[46, 56, 66, 76, 85, 94, 101, 108], 46) := by decide +kernel
theorem dX5_paper_60 : decode cX5_paper 60 = .ok (.aload_n 0, 1) := by decide +kernel
theorem dX5_paper_61 : decode cX5_paper 61 = .ok (.getfield 12, 3) := by decide +kernel
theorem dX5_paper_64 : decode cX5_paper 64 = .ok (.getfield 97, 3) := by decide +kernel
theorem dX5_paper_67 : decode cX5_paper 67 = .ok (.iload_n 1, 1) := by decide +kernel
theorem dX5_paper_68 : decode cX5_paper 68 = .ok (.iaload, 1) := by decide +kernel
theorem dX5_paper_69 : decode cX5_paper 69 = .ok (.ireturn, 1) := by decide +kernel
theorem dX5_paper_70 : decode cX5_paper 70 = .ok (.aload_n 0, 1) := by decide +kernel
theorem dX5_paper_71 : decode cX5_paper 71 = .ok (.getfield 12, 3) := by decide +kernel
theorem dX5_paper_74 : decode cX5_paper 74 = .ok (.getfield 100, 3) := by decide +kernel
theorem dX5_paper_77 : decode cX5_paper 77 = .ok (.iload_n 1, 1) := by decide +kernel
theorem dX5_paper_78 : decode cX5_paper 78 = .ok (.iaload, 1) := by decide +kernel
theorem dX5_paper_79 : decode cX5_paper 79 = .ok (.ireturn, 1) := by decide +kernel
theorem dX5_paper_80 : decode cX5_paper 80 = .ok (.aload_n 0, 1) := by decide +kernel
theorem dX5_paper_81 : decode cX5_paper 81 = .ok (.getfield 12, 3) := by decide +kernel
theorem dX5_paper_84 : decode cX5_paper 84 = .ok (.getfield 103, 3) := by decide +kernel
theorem dX5_paper_87 : decode cX5_paper 87 = .ok (.iload_n 1, 1) := by decide +kernel
theorem dX5_paper_88 : decode cX5_paper 88 = .ok (.iaload, 1) := by decide +kernel
theorem dX5_paper_89 : decode cX5_paper 89 = .ok (.ireturn, 1) := by decide +kernel
theorem dX5_paper_90 : decode cX5_paper 90 = .ok (.aload_n 0, 1) := by decide +kernel
theorem dX5_paper_91 : decode cX5_paper 91 = .ok (.getfield 12, 3) := by decide +kernel
theorem dX5_paper_94 : decode cX5_paper 94 = .ok (.iload_n 1, 1) := by decide +kernel
theorem dX5_paper_95 : decode cX5_paper 95 = .ok (.invokevirtual 118, 3) := by decide +kernel
theorem dX5_paper_98 : decode cX5_paper 98 = .ok (.ireturn, 1) := by decide +kernel
theorem dX5_paper_99 : decode cX5_paper 99 = .ok (.aload_n 0, 1) := by decide +kernel
theorem dX5_paper_100 : decode cX5_paper 100 = .ok (.getfield 12, 3) := by decide +kernel
theorem dX5_paper_103 : decode cX5_paper 103 = .ok (.iload_n 1, 1) := by decide +kernel
theorem dX5_paper_104 : decode cX5_paper 104 = .ok (.invokevirtual 122, 3) := by decide +kernel
theorem dX5_paper_107 : decode cX5_paper 107 = .ok (.ireturn, 1) := by decide +kernel
theorem dX5_paper_108 : decode cX5_paper 108 = .ok (.aload_n 0, 1) := by decide +kernel
theorem dX5_paper_109 : decode cX5_paper 109 = .ok (.iload_n 1, 1) := by decide +kernel
theorem dX5_paper_110 : decode cX5_paper 110 = .ok (.iconst 1, 1) := by decide +kernel
theorem dX5_paper_111 : decode cX5_paper 111 = .ok (.invokevirtual 125, 3) := by decide +kernel
theorem dX5_paper_114 : decode cX5_paper 114 = .ok (.ireturn, 1) := by decide +kernel
theorem dX5_paper_115 : decode cX5_paper 115 = .ok (.aload_n 0, 1) := by decide +kernel
theorem dX5_paper_116 : decode cX5_paper 116 = .ok (.iload_n 1, 1) := by decide +kernel
theorem dX5_paper_117 : decode cX5_paper 117 = .ok (.iconst 2, 1) := by decide +kernel
theorem dX5_paper_118 : decode cX5_paper 118 = .ok (.invokevirtual 125, 3) := by decide +kernel
theorem dX5_paper_121 : decode cX5_paper 121 = .ok (.ireturn, 1) := by decide +kernel
theorem dX5_paper_122 : decode cX5_paper 122 = .ok (.aload_n 0, 1) := by decide +kernel
theorem dX5_paper_123 : decode cX5_paper 123 = .ok (.iload_n 1, 1) := by decide +kernel
theorem dX5_paper_124 : decode cX5_paper 124 = .ok (.iconst 3, 1) := by decide +kernel
theorem dX5_paper_125 : decode cX5_paper 125 = .ok (.invokevirtual 125, 3) := by decide +kernel
theorem dX5_paper_128 : decode cX5_paper 128 = .ok (.ireturn, 1) := by decide +kernel
theorem dX5_paper_129 : decode cX5_paper 129 = .ok (.bipush (-2), 2) := by decide +kernel
theorem dX5_paper_131 : decode cX5_paper 131 = .ok (.ireturn, 1) := by decide +kernel
theorem dX5_studentsWith_0 : decode cX5_studentsWith 0 = .ok (.iconst 0, 1) := by decide +kernel
theorem dX5_studentsWith_1 : decode cX5_studentsWith 1 = .ok (.istore_n 3, 1) := by decide +kernel
theorem dX5_studentsWith_2 : decode cX5_studentsWith 2 = .ok (.iconst 0, 1) := by decide +kernel
theorem dX5_studentsWith_3 : decode cX5_studentsWith 3 = .ok (.istore 4, 2) := by decide +kernel
theorem dX5_studentsWith_5 : decode cX5_studentsWith 5 = .ok (.iload 4, 2) := by decide +kernel
theorem dX5_studentsWith_7 : decode cX5_studentsWith 7 = .ok (.aload_n 0, 1) := by decide +kernel
theorem dX5_studentsWith_8 : decode cX5_studentsWith 8 = .ok (.getfield 12, 3) := by decide +kernel
theorem dX5_studentsWith_11 : decode cX5_studentsWith 11 = .ok (.getfield 109, 3) := by decide +kernel
theorem dX5_studentsWith_14 : decode cX5_studentsWith 14 = .ok (.if_icmp .ge 38, 3) := by decide +kernel
theorem dX5_studentsWith_17 : decode cX5_studentsWith 17 = .ok (.aload_n 0, 1) := by decide +kernel
theorem dX5_studentsWith_18 : decode cX5_studentsWith 18 = .ok (.getfield 33, 3) := by decide +kernel
theorem dX5_studentsWith_21 : decode cX5_studentsWith 21 = .ok (.aload_n 0, 1) := by decide +kernel
theorem dX5_studentsWith_22 : decode cX5_studentsWith 22 = .ok (.getfield 12, 3) := by decide +kernel
theorem dX5_studentsWith_25 : decode cX5_studentsWith 25 = .ok (.iload 4, 2) := by decide +kernel
theorem dX5_studentsWith_27 : decode cX5_studentsWith 27 = .ok (.invokevirtual 129, 3) := by decide +kernel
theorem dX5_studentsWith_30 : decode cX5_studentsWith 30 = .ok (.aload_n 0, 1) := by decide +kernel
theorem dX5_studentsWith_31 : decode cX5_studentsWith 31 = .ok (.getfield 33, 3) := by decide +kernel
theorem dX5_studentsWith_34 : decode cX5_studentsWith 34 = .ok (.getfield 133, 3) := by decide +kernel
theorem dX5_studentsWith_37 : decode cX5_studentsWith 37 = .ok (.iload_n 1, 1) := by decide +kernel
theorem dX5_studentsWith_38 : decode cX5_studentsWith 38 = .ok (.iaload, 1) := by decide +kernel
theorem dX5_studentsWith_39 : decode cX5_studentsWith 39 = .ok (.iload_n 2, 1) := by decide +kernel
theorem dX5_studentsWith_40 : decode cX5_studentsWith 40 = .ok (.if_icmp .ne 6, 3) := by decide +kernel
theorem dX5_studentsWith_43 : decode cX5_studentsWith 43 = .ok (.iinc 3 1, 3) := by decide +kernel
theorem dX5_studentsWith_46 : decode cX5_studentsWith 46 = .ok (.iinc 4 1, 3) := by decide +kernel
theorem dX5_studentsWith_49 : decode cX5_studentsWith 49 = .ok (.goto (-44), 3) := by decide +kernel
theorem dX5_studentsWith_52 : decode cX5_studentsWith 52 = .ok (.iload_n 3, 1) := by decide +kernel
theorem dX5_studentsWith_53 : decode cX5_studentsWith 53 = .ok (.ireturn, 1) := by decide +kernel
theorem dX5_mark_0 : decode cX5_mark 0 = .ok (.iload_n 3, 1) := by decide +kernel
theorem dX5_mark_1 : decode cX5_mark 1 = .ok (.ifCond .ge 6, 3) := by decide +kernel
theorem dX5_mark_4 : decode cX5_mark 4 = .ok (.bipush (-2), 2) := by decide +kernel
theorem dX5_mark_6 : decode cX5_mark 6 = .ok (.ireturn, 1) := by decide +kernel
theorem dX5_mark_7 : decode cX5_mark 7 = .ok (.aload_n 0, 1) := by decide +kernel
theorem dX5_mark_8 : decode cX5_mark 8 = .ok (.bipush 109, 2) := by decide +kernel
theorem dX5_mark_10 : decode cX5_mark 10 = .ok (.iload_n 1, 1) := by decide +kernel
theorem dX5_mark_11 : decode cX5_mark 11 = .ok (.iload_n 2, 1) := by decide +kernel
theorem dX5_mark_12 : decode cX5_mark 12 = .ok (.iload_n 3, 1) := by decide +kernel
theorem dX5_mark_13 : decode cX5_mark 13 = .ok (.bipush (-5), 2) := by decide +kernel
theorem dX5_mark_15 : decode cX5_mark 15 = .ok (.invokevirtual 136, 3) := by decide +kernel
theorem dX5_mark_18 : decode cX5_mark 18 = .ok (.ifCond .eq 6, 3) := by decide +kernel
theorem dX5_mark_21 : decode cX5_mark 21 = .ok (.bipush (-4), 2) := by decide +kernel
theorem dX5_mark_23 : decode cX5_mark 23 = .ok (.ireturn, 1) := by decide +kernel
theorem dX5_mark_24 : decode cX5_mark 24 = .ok (.aload_n 0, 1) := by decide +kernel
theorem dX5_mark_25 : decode cX5_mark 25 = .ok (.getfield 26, 3) := by decide +kernel
theorem dX5_mark_28 : decode cX5_mark 28 = .ok (.aload_n 0, 1) := by decide +kernel
theorem dX5_mark_29 : decode cX5_mark 29 = .ok (.getfield 12, 3) := by decide +kernel
theorem dX5_mark_32 : decode cX5_mark 32 = .ok (.invokevirtual 76, 3) := by decide +kernel
theorem dX5_mark_35 : decode cX5_mark 35 = .ok (.aload_n 0, 1) := by decide +kernel
theorem dX5_mark_36 : decode cX5_mark 36 = .ok (.getfield 12, 3) := by decide +kernel
theorem dX5_mark_39 : decode cX5_mark 39 = .ok (.bipush 109, 2) := by decide +kernel
theorem dX5_mark_41 : decode cX5_mark 41 = .ok (.iload_n 1, 1) := by decide +kernel
theorem dX5_mark_42 : decode cX5_mark 42 = .ok (.iload_n 2, 1) := by decide +kernel
theorem dX5_mark_43 : decode cX5_mark 43 = .ok (.iload_n 3, 1) := by decide +kernel
theorem dX5_mark_44 : decode cX5_mark 44 = .ok (.invokevirtual 140, 3) := by decide +kernel
theorem dX5_mark_47 : decode cX5_mark 47 = .ok (.aload_n 0, 1) := by decide +kernel
theorem dX5_mark_48 : decode cX5_mark 48 = .ok (.getfield 12, 3) := by decide +kernel
theorem dX5_mark_51 : decode cX5_mark 51 = .ok (.iload_n 2, 1) := by decide +kernel
theorem dX5_mark_52 : decode cX5_mark 52 = .ok (.iload_n 3, 1) := by decide +kernel
theorem dX5_mark_53 : decode cX5_mark 53 = .ok (.invokevirtual 144, 3) := by decide +kernel
theorem dX5_mark_56 : decode cX5_mark 56 = .ok (.ireturn, 1) := by decide +kernel
theorem dX5_absent_0 : decode cX5_absent 0 = .ok (.iload_n 3, 1) := by decide +kernel
theorem dX5_absent_1 : decode cX5_absent 1 = .ok (.iconst 0, 1) := by decide +kernel
theorem dX5_absent_2 : decode cX5_absent 2 = .ok (.iconst 1, 1) := by decide +kernel
theorem dX5_absent_3 : decode cX5_absent 3 = .ok (.invokestatic 80, 3) := by decide +kernel
theorem dX5_absent_6 : decode cX5_absent 6 = .ok (.ifCond .ne 6, 3) := by decide +kernel
theorem dX5_absent_9 : decode cX5_absent 9 = .ok (.bipush (-2), 2) := by decide +kernel
theorem dX5_absent_11 : decode cX5_absent 11 = .ok (.ireturn, 1) := by decide +kernel
theorem dX5_absent_12 : decode cX5_absent 12 = .ok (.iload_n 3, 1) := by decide +kernel
theorem dX5_absent_13 : decode cX5_absent 13 = .ok (.iconst 1, 1) := by decide +kernel
theorem dX5_absent_14 : decode cX5_absent 14 = .ok (.if_icmp .ne 8, 3) := by decide +kernel
theorem dX5_absent_17 : decode cX5_absent 17 = .ok (.bipush 101, 2) := by decide +kernel
theorem dX5_absent_19 : decode cX5_absent 19 = .ok (.goto 5, 3) := by decide +kernel
theorem dX5_absent_22 : decode cX5_absent 22 = .ok (.bipush 97, 2) := by decide +kernel
theorem dX5_absent_24 : decode cX5_absent 24 = .ok (.istore 4, 2) := by decide +kernel
theorem dX5_absent_26 : decode cX5_absent 26 = .ok (.aload_n 0, 1) := by decide +kernel
theorem dX5_absent_27 : decode cX5_absent 27 = .ok (.iload 4, 2) := by decide +kernel
theorem dX5_absent_29 : decode cX5_absent 29 = .ok (.iload_n 1, 1) := by decide +kernel
theorem dX5_absent_30 : decode cX5_absent 30 = .ok (.iload_n 2, 1) := by decide +kernel
theorem dX5_absent_31 : decode cX5_absent 31 = .ok (.iconst 0, 1) := by decide +kernel
theorem dX5_absent_32 : decode cX5_absent 32 = .ok (.bipush (-5), 2) := by decide +kernel
theorem dX5_absent_34 : decode cX5_absent 34 = .ok (.invokevirtual 136, 3) := by decide +kernel
theorem dX5_absent_37 : decode cX5_absent 37 = .ok (.ifCond .eq 6, 3) := by decide +kernel
theorem dX5_absent_40 : decode cX5_absent 40 = .ok (.bipush (-4), 2) := by decide +kernel
theorem dX5_absent_42 : decode cX5_absent 42 = .ok (.ireturn, 1) := by decide +kernel
theorem dX5_absent_43 : decode cX5_absent 43 = .ok (.aload_n 0, 1) := by decide +kernel
theorem dX5_absent_44 : decode cX5_absent 44 = .ok (.getfield 26, 3) := by decide +kernel
theorem dX5_absent_47 : decode cX5_absent 47 = .ok (.aload_n 0, 1) := by decide +kernel
theorem dX5_absent_48 : decode cX5_absent 48 = .ok (.getfield 12, 3) := by decide +kernel
theorem dX5_absent_51 : decode cX5_absent 51 = .ok (.invokevirtual 76, 3) := by decide +kernel
theorem dX5_absent_54 : decode cX5_absent 54 = .ok (.aload_n 0, 1) := by decide +kernel
theorem dX5_absent_55 : decode cX5_absent 55 = .ok (.getfield 12, 3) := by decide +kernel
theorem dX5_absent_58 : decode cX5_absent 58 = .ok (.iload 4, 2) := by decide +kernel
theorem dX5_absent_60 : decode cX5_absent 60 = .ok (.iload_n 1, 1) := by decide +kernel
theorem dX5_absent_61 : decode cX5_absent 61 = .ok (.iload_n 2, 1) := by decide +kernel
theorem dX5_absent_62 : decode cX5_absent 62 = .ok (.iconst 0, 1) := by decide +kernel
theorem dX5_absent_63 : decode cX5_absent 63 = .ok (.invokevirtual 140, 3) := by decide +kernel
theorem dX5_absent_66 : decode cX5_absent 66 = .ok (.aload_n 0, 1) := by decide +kernel
theorem dX5_absent_67 : decode cX5_absent 67 = .ok (.getfield 12, 3) := by decide +kernel
theorem dX5_absent_70 : decode cX5_absent 70 = .ok (.iload_n 1, 1) := by decide +kernel
theorem dX5_absent_71 : decode cX5_absent 71 = .ok (.invokevirtual 147, 3) := by decide +kernel
theorem dX5_absent_74 : decode cX5_absent 74 = .ok (.ireturn, 1) := by decide +kernel
theorem dX5_resit_0 : decode cX5_resit 0 = .ok (.iload_n 3, 1) := by decide +kernel
theorem dX5_resit_1 : decode cX5_resit 1 = .ok (.ifCond .ge 6, 3) := by decide +kernel
theorem dX5_resit_4 : decode cX5_resit 4 = .ok (.bipush (-2), 2) := by decide +kernel
theorem dX5_resit_6 : decode cX5_resit 6 = .ok (.ireturn, 1) := by decide +kernel
theorem dX5_resit_7 : decode cX5_resit 7 = .ok (.aload_n 0, 1) := by decide +kernel
theorem dX5_resit_8 : decode cX5_resit 8 = .ok (.bipush 114, 2) := by decide +kernel
theorem dX5_resit_10 : decode cX5_resit 10 = .ok (.iload_n 1, 1) := by decide +kernel
theorem dX5_resit_11 : decode cX5_resit 11 = .ok (.iload_n 2, 1) := by decide +kernel
theorem dX5_resit_12 : decode cX5_resit 12 = .ok (.iload_n 3, 1) := by decide +kernel
theorem dX5_resit_13 : decode cX5_resit 13 = .ok (.bipush (-5), 2) := by decide +kernel
theorem dX5_resit_15 : decode cX5_resit 15 = .ok (.invokevirtual 136, 3) := by decide +kernel
theorem dX5_resit_18 : decode cX5_resit 18 = .ok (.ifCond .eq 6, 3) := by decide +kernel
theorem dX5_resit_21 : decode cX5_resit 21 = .ok (.bipush (-4), 2) := by decide +kernel
theorem dX5_resit_23 : decode cX5_resit 23 = .ok (.ireturn, 1) := by decide +kernel
theorem dX5_resit_24 : decode cX5_resit 24 = .ok (.aload_n 0, 1) := by decide +kernel
theorem dX5_resit_25 : decode cX5_resit 25 = .ok (.getfield 26, 3) := by decide +kernel
theorem dX5_resit_28 : decode cX5_resit 28 = .ok (.aload_n 0, 1) := by decide +kernel
theorem dX5_resit_29 : decode cX5_resit 29 = .ok (.getfield 12, 3) := by decide +kernel
theorem dX5_resit_32 : decode cX5_resit 32 = .ok (.invokevirtual 76, 3) := by decide +kernel
theorem dX5_resit_35 : decode cX5_resit 35 = .ok (.aload_n 0, 1) := by decide +kernel
theorem dX5_resit_36 : decode cX5_resit 36 = .ok (.getfield 12, 3) := by decide +kernel
theorem dX5_resit_39 : decode cX5_resit 39 = .ok (.bipush 114, 2) := by decide +kernel
theorem dX5_resit_41 : decode cX5_resit 41 = .ok (.iload_n 1, 1) := by decide +kernel
theorem dX5_resit_42 : decode cX5_resit 42 = .ok (.iload_n 2, 1) := by decide +kernel
theorem dX5_resit_43 : decode cX5_resit 43 = .ok (.iload_n 3, 1) := by decide +kernel
theorem dX5_resit_44 : decode cX5_resit 44 = .ok (.invokevirtual 140, 3) := by decide +kernel
theorem dX5_resit_47 : decode cX5_resit 47 = .ok (.aload_n 0, 1) := by decide +kernel
theorem dX5_resit_48 : decode cX5_resit 48 = .ok (.getfield 12, 3) := by decide +kernel
theorem dX5_resit_51 : decode cX5_resit 51 = .ok (.iload_n 1, 1) := by decide +kernel
theorem dX5_resit_52 : decode cX5_resit 52 = .ok (.iload_n 2, 1) := by decide +kernel
theorem dX5_resit_53 : decode cX5_resit 53 = .ok (.invokevirtual 150, 3) := by decide +kernel
theorem dX5_resit_56 : decode cX5_resit 56 = .ok (.ireturn, 1) := by decide +kernel
theorem dX5_remove_0 : decode cX5_remove 0 = .ok (.aload_n 0, 1) := by decide +kernel
theorem dX5_remove_1 : decode cX5_remove 1 = .ok (.bipush 120, 2) := by decide +kernel
theorem dX5_remove_3 : decode cX5_remove 3 = .ok (.iload_n 1, 1) := by decide +kernel
theorem dX5_remove_4 : decode cX5_remove 4 = .ok (.iload_n 2, 1) := by decide +kernel
theorem dX5_remove_5 : decode cX5_remove 5 = .ok (.iconst 0, 1) := by decide +kernel
theorem dX5_remove_6 : decode cX5_remove 6 = .ok (.bipush (-5), 2) := by decide +kernel
theorem dX5_remove_8 : decode cX5_remove 8 = .ok (.invokevirtual 136, 3) := by decide +kernel
theorem dX5_remove_11 : decode cX5_remove 11 = .ok (.ifCond .eq 6, 3) := by decide +kernel
theorem dX5_remove_14 : decode cX5_remove 14 = .ok (.bipush (-4), 2) := by decide +kernel
theorem dX5_remove_16 : decode cX5_remove 16 = .ok (.ireturn, 1) := by decide +kernel
theorem dX5_remove_17 : decode cX5_remove 17 = .ok (.aload_n 0, 1) := by decide +kernel
theorem dX5_remove_18 : decode cX5_remove 18 = .ok (.getfield 12, 3) := by decide +kernel
theorem dX5_remove_21 : decode cX5_remove 21 = .ok (.iload_n 1, 1) := by decide +kernel
theorem dX5_remove_22 : decode cX5_remove 22 = .ok (.iload_n 2, 1) := by decide +kernel
theorem dX5_remove_23 : decode cX5_remove 23 = .ok (.invokevirtual 153, 3) := by decide +kernel
theorem dX5_remove_26 : decode cX5_remove 26 = .ok (.ifCond .eq 7, 3) := by decide +kernel
theorem dX5_remove_29 : decode cX5_remove 29 = .ok (.iconst 2, 1) := by decide +kernel
theorem dX5_remove_30 : decode cX5_remove 30 = .ok (.goto 4, 3) := by decide +kernel
theorem dX5_remove_33 : decode cX5_remove 33 = .ok (.iconst 1, 1) := by decide +kernel
theorem dX5_remove_34 : decode cX5_remove 34 = .ok (.istore_n 3, 1) := by decide +kernel
theorem dX5_remove_35 : decode cX5_remove 35 = .ok (.aload_n 0, 1) := by decide +kernel
theorem dX5_remove_36 : decode cX5_remove 36 = .ok (.getfield 26, 3) := by decide +kernel
theorem dX5_remove_39 : decode cX5_remove 39 = .ok (.aload_n 0, 1) := by decide +kernel
theorem dX5_remove_40 : decode cX5_remove 40 = .ok (.getfield 12, 3) := by decide +kernel
theorem dX5_remove_43 : decode cX5_remove 43 = .ok (.invokevirtual 76, 3) := by decide +kernel
theorem dX5_remove_46 : decode cX5_remove 46 = .ok (.aload_n 0, 1) := by decide +kernel
theorem dX5_remove_47 : decode cX5_remove 47 = .ok (.getfield 12, 3) := by decide +kernel
theorem dX5_remove_50 : decode cX5_remove 50 = .ok (.bipush 120, 2) := by decide +kernel
theorem dX5_remove_52 : decode cX5_remove 52 = .ok (.iload_n 1, 1) := by decide +kernel
theorem dX5_remove_53 : decode cX5_remove 53 = .ok (.iload_n 2, 1) := by decide +kernel
theorem dX5_remove_54 : decode cX5_remove 54 = .ok (.iconst 0, 1) := by decide +kernel
theorem dX5_remove_55 : decode cX5_remove 55 = .ok (.invokevirtual 140, 3) := by decide +kernel
theorem dX5_remove_58 : decode cX5_remove 58 = .ok (.iload_n 3, 1) := by decide +kernel
theorem dX5_remove_59 : decode cX5_remove 59 = .ok (.ireturn, 1) := by decide +kernel
theorem dX5_isRefused_0 : decode cX5_isRefused 0 = .ok (.aload_n 0, 1) := by decide +kernel
theorem dX5_isRefused_1 : decode cX5_isRefused 1 = .ok (.getfield 12, 3) := by decide +kernel
theorem dX5_isRefused_4 : decode cX5_isRefused 4 = .ok (.iload_n 1, 1) := by decide +kernel
theorem dX5_isRefused_5 : decode cX5_isRefused 5 = .ok (.iload_n 2, 1) := by decide +kernel
theorem dX5_isRefused_6 : decode cX5_isRefused 6 = .ok (.iload_n 3, 1) := by decide +kernel
theorem dX5_isRefused_7 : decode cX5_isRefused 7 = .ok (.iload 4, 2) := by decide +kernel
theorem dX5_isRefused_9 : decode cX5_isRefused 9 = .ok (.invokevirtual 156, 3) := by decide +kernel
theorem dX5_isRefused_12 : decode cX5_isRefused 12 = .ok (.istore 6, 2) := by decide +kernel
theorem dX5_isRefused_14 : decode cX5_isRefused 14 = .ok (.iload 6, 2) := by decide +kernel
theorem dX5_isRefused_16 : decode cX5_isRefused 16 = .ok (.ifCond .ne 5, 3) := by decide +kernel
theorem dX5_isRefused_19 : decode cX5_isRefused 19 = .ok (.iconst 0, 1) := by decide +kernel
theorem dX5_isRefused_20 : decode cX5_isRefused 20 = .ok (.ireturn, 1) := by decide +kernel
theorem dX5_isRefused_21 : decode cX5_isRefused 21 = .ok (.aload_n 0, 1) := by decide +kernel
theorem dX5_isRefused_22 : decode cX5_isRefused 22 = .ok (.iload 6, 2) := by decide +kernel
theorem dX5_isRefused_24 : decode cX5_isRefused 24 = .ok (.putfield 58, 3) := by decide +kernel
theorem dX5_isRefused_27 : decode cX5_isRefused 27 = .ok (.aload_n 0, 1) := by decide +kernel
theorem dX5_isRefused_28 : decode cX5_isRefused 28 = .ok (.iload 5, 2) := by decide +kernel
theorem dX5_isRefused_30 : decode cX5_isRefused 30 = .ok (.putfield 62, 3) := by decide +kernel
theorem dX5_isRefused_33 : decode cX5_isRefused 33 = .ok (.aload_n 0, 1) := by decide +kernel
theorem dX5_isRefused_34 : decode cX5_isRefused 34 = .ok (.aload_n 0, 1) := by decide +kernel
theorem dX5_isRefused_35 : decode cX5_isRefused 35 = .ok (.getfield 12, 3) := by decide +kernel
theorem dX5_isRefused_38 : decode cX5_isRefused 38 = .ok (.iload 6, 2) := by decide +kernel
theorem dX5_isRefused_40 : decode cX5_isRefused 40 = .ok (.iload_n 2, 1) := by decide +kernel
theorem dX5_isRefused_41 : decode cX5_isRefused 41 = .ok (.iload_n 3, 1) := by decide +kernel
theorem dX5_isRefused_42 : decode cX5_isRefused 42 = .ok (.invokevirtual 160, 3) := by decide +kernel
theorem dX5_isRefused_45 : decode cX5_isRefused 45 = .ok (.putfield 65, 3) := by decide +kernel
theorem dX5_isRefused_48 : decode cX5_isRefused 48 = .ok (.iconst 1, 1) := by decide +kernel
theorem dX5_isRefused_49 : decode cX5_isRefused 49 = .ok (.ireturn, 1) := by decide +kernel
theorem dX5_attempt_0 : decode cX5_attempt 0 = .ok (.aload_n 0, 1) := by decide +kernel
theorem dX5_attempt_1 : decode cX5_attempt 1 = .ok (.getfield 12, 3) := by decide +kernel
theorem dX5_attempt_4 : decode cX5_attempt 4 = .ok (.iload_n 1, 1) := by decide +kernel
theorem dX5_attempt_5 : decode cX5_attempt 5 = .ok (.invokevirtual 164, 3) := by decide +kernel
theorem dX5_attempt_8 : decode cX5_attempt 8 = .ok (.ifCond .eq 14, 3) := by decide +kernel
theorem dX5_attempt_11 : decode cX5_attempt 11 = .ok (.aload_n 0, 1) := by decide +kernel
theorem dX5_attempt_12 : decode cX5_attempt 12 = .ok (.getfield 12, 3) := by decide +kernel
theorem dX5_attempt_15 : decode cX5_attempt 15 = .ok (.iload_n 2, 1) := by decide +kernel
theorem dX5_attempt_16 : decode cX5_attempt 16 = .ok (.invokevirtual 115, 3) := by decide +kernel
theorem dX5_attempt_19 : decode cX5_attempt 19 = .ok (.ifCond .ne 5, 3) := by decide +kernel
theorem dX5_attempt_22 : decode cX5_attempt 22 = .ok (.iconst (-1), 1) := by decide +kernel
theorem dX5_attempt_23 : decode cX5_attempt 23 = .ok (.ireturn, 1) := by decide +kernel
theorem dX5_attempt_24 : decode cX5_attempt 24 = .ok (.iload_n 3, 1) := by decide +kernel
theorem dX5_attempt_25 : decode cX5_attempt 25 = .ok (.iconst 0, 1) := by decide +kernel
theorem dX5_attempt_26 : decode cX5_attempt 26 = .ok (.bipush 7, 2) := by decide +kernel
theorem dX5_attempt_28 : decode cX5_attempt 28 = .ok (.invokestatic 80, 3) := by decide +kernel
theorem dX5_attempt_31 : decode cX5_attempt 31 = .ok (.ifCond .ne 6, 3) := by decide +kernel
theorem dX5_attempt_34 : decode cX5_attempt 34 = .ok (.bipush (-2), 2) := by decide +kernel
theorem dX5_attempt_36 : decode cX5_attempt 36 = .ok (.ireturn, 1) := by decide +kernel
theorem dX5_attempt_37 : decode cX5_attempt 37 = .ok (.aload_n 0, 1) := by decide +kernel
theorem dX5_attempt_38 : decode cX5_attempt 38 = .ok (.getfield 12, 3) := by decide +kernel
theorem dX5_attempt_41 : decode cX5_attempt 41 = .ok (.iload_n 1, 1) := by decide +kernel
theorem dX5_attempt_42 : decode cX5_attempt 42 = .ok (.iload_n 2, 1) := by decide +kernel
theorem dX5_attempt_43 : decode cX5_attempt 43 = .ok (.invokevirtual 167, 3) := by decide +kernel
theorem dX5_attempt_46 : decode cX5_attempt 46 = .ok (.ifCond .ne 6, 3) := by decide +kernel
theorem dX5_attempt_49 : decode cX5_attempt 49 = .ok (.bipush (-5), 2) := by decide +kernel
theorem dX5_attempt_51 : decode cX5_attempt 51 = .ok (.ireturn, 1) := by decide +kernel
theorem dX5_attempt_52 : decode cX5_attempt 52 = .ok (.iload_n 3, 1) := by decide +kernel
theorem dX5_attempt_53 : decode cX5_attempt 53 = .ok (.iconst 3, 1) := by decide +kernel
theorem dX5_attempt_54 : decode cX5_attempt 54 = .ok (.if_icmp .eq 8, 3) := by decide +kernel
theorem dX5_attempt_57 : decode cX5_attempt 57 = .ok (.iload_n 3, 1) := by decide +kernel
theorem dX5_attempt_58 : decode cX5_attempt 58 = .ok (.iconst 4, 1) := by decide +kernel
theorem dX5_attempt_59 : decode cX5_attempt 59 = .ok (.if_icmp .ne 11, 3) := by decide +kernel
theorem dX5_attempt_62 : decode cX5_attempt 62 = .ok (.aload_n 0, 1) := by decide +kernel
theorem dX5_attempt_63 : decode cX5_attempt 63 = .ok (.iload_n 1, 1) := by decide +kernel
theorem dX5_attempt_64 : decode cX5_attempt 64 = .ok (.iload_n 2, 1) := by decide +kernel
theorem dX5_attempt_65 : decode cX5_attempt 65 = .ok (.iload_n 3, 1) := by decide +kernel
theorem dX5_attempt_66 : decode cX5_attempt 66 = .ok (.invokevirtual 170, 3) := by decide +kernel
theorem dX5_attempt_69 : decode cX5_attempt 69 = .ok (.ireturn, 1) := by decide +kernel
theorem dX5_attempt_70 : decode cX5_attempt 70 = .ok (.aload_n 0, 1) := by decide +kernel
theorem dX5_attempt_71 : decode cX5_attempt 71 = .ok (.iload_n 1, 1) := by decide +kernel
theorem dX5_attempt_72 : decode cX5_attempt 72 = .ok (.iload_n 2, 1) := by decide +kernel
theorem dX5_attempt_73 : decode cX5_attempt 73 = .ok (.iload_n 3, 1) := by decide +kernel
theorem dX5_attempt_74 : decode cX5_attempt 74 = .ok (.invokevirtual 173, 3) := by decide +kernel
theorem dX5_attempt_77 : decode cX5_attempt 77 = .ok (.ireturn, 1) := by decide +kernel
theorem dX5_firstNumber_0 : decode cX5_firstNumber 0 = .ok (.iload_n 1, 1) := by decide +kernel
theorem dX5_firstNumber_1 : decode cX5_firstNumber 1 = .ok (.bipush 8, 2) := by decide +kernel
theorem dX5_firstNumber_3 : decode cX5_firstNumber 3 = .ok (.imul, 1) := by decide +kernel
theorem dX5_firstNumber_4 : decode cX5_firstNumber 4 = .ok (.iload_n 2, 1) := by decide +kernel
theorem dX5_firstNumber_5 : decode cX5_firstNumber 5 = .ok (.iadd, 1) := by decide +kernel
theorem dX5_firstNumber_6 : decode cX5_firstNumber 6 = .ok (.istore 4, 2) := by decide +kernel
theorem dX5_firstNumber_8 : decode cX5_firstNumber 8 = .ok (.iload_n 3, 1) := by decide +kernel
theorem dX5_firstNumber_9 : decode cX5_firstNumber 9 = .ok (.tableswitch 134 0 6 #[43, 73, 92, 134, 134, 102, 112], 43) := by decide +kernel
theorem dX5_firstNumber_52 : decode cX5_firstNumber 52 = .ok (.aload_n 0, 1) := by decide +kernel
theorem dX5_firstNumber_53 : decode cX5_firstNumber 53 = .ok (.getfield 12, 3) := by decide +kernel
theorem dX5_firstNumber_56 : decode cX5_firstNumber 56 = .ok (.getfield 176, 3) := by decide +kernel
theorem dX5_firstNumber_59 : decode cX5_firstNumber 59 = .ok (.iload 4, 2) := by decide +kernel
theorem dX5_firstNumber_61 : decode cX5_firstNumber 61 = .ok (.iaload, 1) := by decide +kernel
theorem dX5_firstNumber_62 : decode cX5_firstNumber 62 = .ok (.iconst 1, 1) := by decide +kernel
theorem dX5_firstNumber_63 : decode cX5_firstNumber 63 = .ok (.if_icmp .ne 16, 3) := by decide +kernel
theorem dX5_firstNumber_66 : decode cX5_firstNumber 66 = .ok (.aload_n 0, 1) := by decide +kernel
theorem dX5_firstNumber_67 : decode cX5_firstNumber 67 = .ok (.getfield 12, 3) := by decide +kernel
theorem dX5_firstNumber_70 : decode cX5_firstNumber 70 = .ok (.getfield 179, 3) := by decide +kernel
theorem dX5_firstNumber_73 : decode cX5_firstNumber 73 = .ok (.iload 4, 2) := by decide +kernel
theorem dX5_firstNumber_75 : decode cX5_firstNumber 75 = .ok (.iaload, 1) := by decide +kernel
theorem dX5_firstNumber_76 : decode cX5_firstNumber 76 = .ok (.goto 5, 3) := by decide +kernel
theorem dX5_firstNumber_79 : decode cX5_firstNumber 79 = .ok (.bipush (-5), 2) := by decide +kernel
theorem dX5_firstNumber_81 : decode cX5_firstNumber 81 = .ok (.ireturn, 1) := by decide +kernel
theorem dX5_firstNumber_82 : decode cX5_firstNumber 82 = .ok (.aload_n 0, 1) := by decide +kernel
theorem dX5_firstNumber_83 : decode cX5_firstNumber 83 = .ok (.getfield 12, 3) := by decide +kernel
theorem dX5_firstNumber_86 : decode cX5_firstNumber 86 = .ok (.iload_n 2, 1) := by decide +kernel
theorem dX5_firstNumber_87 : decode cX5_firstNumber 87 = .ok (.aload_n 0, 1) := by decide +kernel
theorem dX5_firstNumber_88 : decode cX5_firstNumber 88 = .ok (.getfield 12, 3) := by decide +kernel
theorem dX5_firstNumber_91 : decode cX5_firstNumber 91 = .ok (.getfield 179, 3) := by decide +kernel
theorem dX5_firstNumber_94 : decode cX5_firstNumber 94 = .ok (.iload 4, 2) := by decide +kernel
theorem dX5_firstNumber_96 : decode cX5_firstNumber 96 = .ok (.iaload, 1) := by decide +kernel
theorem dX5_firstNumber_97 : decode cX5_firstNumber 97 = .ok (.invokevirtual 144, 3) := by decide +kernel
theorem dX5_firstNumber_100 : decode cX5_firstNumber 100 = .ok (.ireturn, 1) := by decide +kernel
theorem dX5_firstNumber_101 : decode cX5_firstNumber 101 = .ok (.aload_n 0, 1) := by decide +kernel
theorem dX5_firstNumber_102 : decode cX5_firstNumber 102 = .ok (.getfield 12, 3) := by decide +kernel
theorem dX5_firstNumber_105 : decode cX5_firstNumber 105 = .ok (.iload_n 1, 1) := by decide +kernel
theorem dX5_firstNumber_106 : decode cX5_firstNumber 106 = .ok (.iload_n 2, 1) := by decide +kernel
theorem dX5_firstNumber_107 : decode cX5_firstNumber 107 = .ok (.invokevirtual 182, 3) := by decide +kernel
theorem dX5_firstNumber_110 : decode cX5_firstNumber 110 = .ok (.ireturn, 1) := by decide +kernel
theorem dX5_firstNumber_111 : decode cX5_firstNumber 111 = .ok (.aload_n 0, 1) := by decide +kernel
theorem dX5_firstNumber_112 : decode cX5_firstNumber 112 = .ok (.getfield 12, 3) := by decide +kernel
theorem dX5_firstNumber_115 : decode cX5_firstNumber 115 = .ok (.iload_n 1, 1) := by decide +kernel
theorem dX5_firstNumber_116 : decode cX5_firstNumber 116 = .ok (.iload_n 2, 1) := by decide +kernel
theorem dX5_firstNumber_117 : decode cX5_firstNumber 117 = .ok (.invokevirtual 185, 3) := by decide +kernel
theorem dX5_firstNumber_120 : decode cX5_firstNumber 120 = .ok (.ireturn, 1) := by decide +kernel
theorem dX5_firstNumber_121 : decode cX5_firstNumber 121 = .ok (.aload_n 0, 1) := by decide +kernel
theorem dX5_firstNumber_122 : decode cX5_firstNumber 122 = .ok (.getfield 33, 3) := by decide +kernel
theorem dX5_firstNumber_125 : decode cX5_firstNumber 125 = .ok (.aload_n 0, 1) := by decide +kernel
theorem dX5_firstNumber_126 : decode cX5_firstNumber 126 = .ok (.getfield 12, 3) := by decide +kernel
theorem dX5_firstNumber_129 : decode cX5_firstNumber 129 = .ok (.iload_n 1, 1) := by decide +kernel
theorem dX5_firstNumber_130 : decode cX5_firstNumber 130 = .ok (.invokevirtual 129, 3) := by decide +kernel
theorem dX5_firstNumber_133 : decode cX5_firstNumber 133 = .ok (.aload_n 0, 1) := by decide +kernel
theorem dX5_firstNumber_134 : decode cX5_firstNumber 134 = .ok (.getfield 33, 3) := by decide +kernel
theorem dX5_firstNumber_137 : decode cX5_firstNumber 137 = .ok (.getfield 133, 3) := by decide +kernel
theorem dX5_firstNumber_140 : decode cX5_firstNumber 140 = .ok (.iload_n 2, 1) := by decide +kernel
theorem dX5_firstNumber_141 : decode cX5_firstNumber 141 = .ok (.iaload, 1) := by decide +kernel
theorem dX5_firstNumber_142 : decode cX5_firstNumber 142 = .ok (.ireturn, 1) := by decide +kernel
theorem dX5_firstNumber_143 : decode cX5_firstNumber 143 = .ok (.aload_n 0, 1) := by decide +kernel
theorem dX5_firstNumber_144 : decode cX5_firstNumber 144 = .ok (.getfield 12, 3) := by decide +kernel
theorem dX5_firstNumber_147 : decode cX5_firstNumber 147 = .ok (.getfield 176, 3) := by decide +kernel
theorem dX5_firstNumber_150 : decode cX5_firstNumber 150 = .ok (.iload 4, 2) := by decide +kernel
theorem dX5_firstNumber_152 : decode cX5_firstNumber 152 = .ok (.iaload, 1) := by decide +kernel
theorem dX5_firstNumber_153 : decode cX5_firstNumber 153 = .ok (.iconst 1, 1) := by decide +kernel
theorem dX5_firstNumber_154 : decode cX5_firstNumber 154 = .ok (.isub, 1) := by decide +kernel
theorem dX5_firstNumber_155 : decode cX5_firstNumber 155 = .ok (.ireturn, 1) := by decide +kernel
theorem dX5_resitNumber_0 : decode cX5_resitNumber 0 = .ok (.aload_n 0, 1) := by decide +kernel
theorem dX5_resitNumber_1 : decode cX5_resitNumber 1 = .ok (.getfield 12, 3) := by decide +kernel
theorem dX5_resitNumber_4 : decode cX5_resitNumber 4 = .ok (.iload_n 1, 1) := by decide +kernel
theorem dX5_resitNumber_5 : decode cX5_resitNumber 5 = .ok (.iload_n 2, 1) := by decide +kernel
theorem dX5_resitNumber_6 : decode cX5_resitNumber 6 = .ok (.invokevirtual 153, 3) := by decide +kernel
theorem dX5_resitNumber_9 : decode cX5_resitNumber 9 = .ok (.ifCond .ne 6, 3) := by decide +kernel
theorem dX5_resitNumber_12 : decode cX5_resitNumber 12 = .ok (.bipush (-5), 2) := by decide +kernel
theorem dX5_resitNumber_14 : decode cX5_resitNumber 14 = .ok (.ireturn, 1) := by decide +kernel
theorem dX5_resitNumber_15 : decode cX5_resitNumber 15 = .ok (.iload_n 3, 1) := by decide +kernel
theorem dX5_resitNumber_16 : decode cX5_resitNumber 16 = .ok (.iconst 3, 1) := by decide +kernel
theorem dX5_resitNumber_17 : decode cX5_resitNumber 17 = .ok (.if_icmp .ne 20, 3) := by decide +kernel
theorem dX5_resitNumber_20 : decode cX5_resitNumber 20 = .ok (.aload_n 0, 1) := by decide +kernel
theorem dX5_resitNumber_21 : decode cX5_resitNumber 21 = .ok (.getfield 12, 3) := by decide +kernel
theorem dX5_resitNumber_24 : decode cX5_resitNumber 24 = .ok (.getfield 188, 3) := by decide +kernel
theorem dX5_resitNumber_27 : decode cX5_resitNumber 27 = .ok (.iload_n 1, 1) := by decide +kernel
theorem dX5_resitNumber_28 : decode cX5_resitNumber 28 = .ok (.bipush 8, 2) := by decide +kernel
theorem dX5_resitNumber_30 : decode cX5_resitNumber 30 = .ok (.imul, 1) := by decide +kernel
theorem dX5_resitNumber_31 : decode cX5_resitNumber 31 = .ok (.iload_n 2, 1) := by decide +kernel
theorem dX5_resitNumber_32 : decode cX5_resitNumber 32 = .ok (.iadd, 1) := by decide +kernel
theorem dX5_resitNumber_33 : decode cX5_resitNumber 33 = .ok (.iaload, 1) := by decide +kernel
theorem dX5_resitNumber_34 : decode cX5_resitNumber 34 = .ok (.goto 12, 3) := by decide +kernel
theorem dX5_resitNumber_37 : decode cX5_resitNumber 37 = .ok (.aload_n 0, 1) := by decide +kernel
theorem dX5_resitNumber_38 : decode cX5_resitNumber 38 = .ok (.getfield 12, 3) := by decide +kernel
theorem dX5_resitNumber_41 : decode cX5_resitNumber 41 = .ok (.iload_n 1, 1) := by decide +kernel
theorem dX5_resitNumber_42 : decode cX5_resitNumber 42 = .ok (.iload_n 2, 1) := by decide +kernel
theorem dX5_resitNumber_43 : decode cX5_resitNumber 43 = .ok (.invokevirtual 150, 3) := by decide +kernel
theorem dX5_resitNumber_46 : decode cX5_resitNumber 46 = .ok (.ireturn, 1) := by decide +kernel
theorem dX5_entered_0 : decode cX5_entered 0 = .ok (.iload_n 1, 1) := by decide +kernel
theorem dX5_entered_1 : decode cX5_entered 1 = .ok (.ifCond .lt 14, 3) := by decide +kernel
theorem dX5_entered_4 : decode cX5_entered 4 = .ok (.iload_n 1, 1) := by decide +kernel
theorem dX5_entered_5 : decode cX5_entered 5 = .ok (.aload_n 0, 1) := by decide +kernel
theorem dX5_entered_6 : decode cX5_entered 6 = .ok (.getfield 12, 3) := by decide +kernel
theorem dX5_entered_9 : decode cX5_entered 9 = .ok (.getfield 191, 3) := by decide +kernel
theorem dX5_entered_12 : decode cX5_entered 12 = .ok (.if_icmp .lt 5, 3) := by decide +kernel
theorem dX5_entered_15 : decode cX5_entered 15 = .ok (.iconst (-1), 1) := by decide +kernel
theorem dX5_entered_16 : decode cX5_entered 16 = .ok (.ireturn, 1) := by decide +kernel
theorem dX5_entered_17 : decode cX5_entered 17 = .ok (.aload_n 0, 1) := by decide +kernel
theorem dX5_entered_18 : decode cX5_entered 18 = .ok (.getfield 12, 3) := by decide +kernel
theorem dX5_entered_21 : decode cX5_entered 21 = .ok (.getfield 194, 3) := by decide +kernel
theorem dX5_entered_24 : decode cX5_entered 24 = .ok (.iload_n 1, 1) := by decide +kernel
theorem dX5_entered_25 : decode cX5_entered 25 = .ok (.iaload, 1) := by decide +kernel
theorem dX5_entered_26 : decode cX5_entered 26 = .ok (.bipush 8, 2) := by decide +kernel
theorem dX5_entered_28 : decode cX5_entered 28 = .ok (.idiv, 1) := by decide +kernel
theorem dX5_entered_29 : decode cX5_entered 29 = .ok (.istore_n 3, 1) := by decide +kernel
theorem dX5_entered_30 : decode cX5_entered 30 = .ok (.aload_n 0, 1) := by decide +kernel
theorem dX5_entered_31 : decode cX5_entered 31 = .ok (.getfield 12, 3) := by decide +kernel
theorem dX5_entered_34 : decode cX5_entered 34 = .ok (.getfield 194, 3) := by decide +kernel
theorem dX5_entered_37 : decode cX5_entered 37 = .ok (.iload_n 1, 1) := by decide +kernel
theorem dX5_entered_38 : decode cX5_entered 38 = .ok (.iaload, 1) := by decide +kernel
theorem dX5_entered_39 : decode cX5_entered 39 = .ok (.bipush 8, 2) := by decide +kernel
theorem dX5_entered_41 : decode cX5_entered 41 = .ok (.irem, 1) := by decide +kernel
theorem dX5_entered_42 : decode cX5_entered 42 = .ok (.istore 4, 2) := by decide +kernel
theorem dX5_entered_44 : decode cX5_entered 44 = .ok (.iload_n 2, 1) := by decide +kernel
theorem dX5_entered_45 : decode cX5_entered 45 = .ok (.tableswitch 43 0 2 #[27, 29, 32], 27) := by decide +kernel
theorem dX5_entered_72 : decode cX5_entered 72 = .ok (.iload_n 3, 1) := by decide +kernel
theorem dX5_entered_73 : decode cX5_entered 73 = .ok (.ireturn, 1) := by decide +kernel
theorem dX5_entered_74 : decode cX5_entered 74 = .ok (.iload 4, 2) := by decide +kernel
theorem dX5_entered_76 : decode cX5_entered 76 = .ok (.ireturn, 1) := by decide +kernel
theorem dX5_entered_77 : decode cX5_entered 77 = .ok (.aload_n 0, 1) := by decide +kernel
theorem dX5_entered_78 : decode cX5_entered 78 = .ok (.getfield 12, 3) := by decide +kernel
theorem dX5_entered_81 : decode cX5_entered 81 = .ok (.iload_n 3, 1) := by decide +kernel
theorem dX5_entered_82 : decode cX5_entered 82 = .ok (.iload 4, 2) := by decide +kernel
theorem dX5_entered_84 : decode cX5_entered 84 = .ok (.invokevirtual 185, 3) := by decide +kernel
theorem dX5_entered_87 : decode cX5_entered 87 = .ok (.ireturn, 1) := by decide +kernel
theorem dX5_entered_88 : decode cX5_entered 88 = .ok (.bipush (-2), 2) := by decide +kernel
theorem dX5_entered_90 : decode cX5_entered 90 = .ok (.ireturn, 1) := by decide +kernel
theorem dX5_scale_0 : decode cX5_scale 0 = .ok (.aload_n 0, 1) := by decide +kernel
theorem dX5_scale_1 : decode cX5_scale 1 = .ok (.getfield 12, 3) := by decide +kernel
theorem dX5_scale_4 : decode cX5_scale 4 = .ok (.iload_n 1, 1) := by decide +kernel
theorem dX5_scale_5 : decode cX5_scale 5 = .ok (.invokevirtual 115, 3) := by decide +kernel
theorem dX5_scale_8 : decode cX5_scale 8 = .ok (.ifCond .eq 10, 3) := by decide +kernel
theorem dX5_scale_11 : decode cX5_scale 11 = .ok (.iload_n 2, 1) := by decide +kernel
theorem dX5_scale_12 : decode cX5_scale 12 = .ok (.invokestatic 106, 3) := by decide +kernel
theorem dX5_scale_15 : decode cX5_scale 15 = .ok (.ifCond .ne 5, 3) := by decide +kernel
theorem dX5_scale_18 : decode cX5_scale 18 = .ok (.iconst (-1), 1) := by decide +kernel
theorem dX5_scale_19 : decode cX5_scale 19 = .ok (.ireturn, 1) := by decide +kernel
theorem dX5_scale_20 : decode cX5_scale 20 = .ok (.iload_n 3, 1) := by decide +kernel
theorem dX5_scale_21 : decode cX5_scale 21 = .ok (.iconst 0, 1) := by decide +kernel
theorem dX5_scale_22 : decode cX5_scale 22 = .ok (.iconst 3, 1) := by decide +kernel
theorem dX5_scale_23 : decode cX5_scale 23 = .ok (.invokestatic 80, 3) := by decide +kernel
theorem dX5_scale_26 : decode cX5_scale 26 = .ok (.ifCond .eq 21, 3) := by decide +kernel
theorem dX5_scale_29 : decode cX5_scale 29 = .ok (.iload 4, 2) := by decide +kernel
theorem dX5_scale_31 : decode cX5_scale 31 = .ok (.getstatic 197, 3) := by decide +kernel
theorem dX5_scale_34 : decode cX5_scale 34 = .ok (.iload_n 3, 1) := by decide +kernel
theorem dX5_scale_35 : decode cX5_scale 35 = .ok (.iaload, 1) := by decide +kernel
theorem dX5_scale_36 : decode cX5_scale 36 = .ok (.getstatic 200, 3) := by decide +kernel
theorem dX5_scale_39 : decode cX5_scale 39 = .ok (.iload_n 3, 1) := by decide +kernel
theorem dX5_scale_40 : decode cX5_scale 40 = .ok (.iaload, 1) := by decide +kernel
theorem dX5_scale_41 : decode cX5_scale 41 = .ok (.invokestatic 80, 3) := by decide +kernel
theorem dX5_scale_44 : decode cX5_scale 44 = .ok (.ifCond .ne 6, 3) := by decide +kernel
theorem dX5_scale_47 : decode cX5_scale 47 = .ok (.bipush (-2), 2) := by decide +kernel
theorem dX5_scale_49 : decode cX5_scale 49 = .ok (.ireturn, 1) := by decide +kernel
theorem dX5_scale_50 : decode cX5_scale 50 = .ok (.iload_n 1, 1) := by decide +kernel
theorem dX5_scale_51 : decode cX5_scale 51 = .ok (.iconst 3, 1) := by decide +kernel
theorem dX5_scale_52 : decode cX5_scale 52 = .ok (.imul, 1) := by decide +kernel
theorem dX5_scale_53 : decode cX5_scale 53 = .ok (.iload_n 2, 1) := by decide +kernel
theorem dX5_scale_54 : decode cX5_scale 54 = .ok (.iadd, 1) := by decide +kernel
theorem dX5_scale_55 : decode cX5_scale 55 = .ok (.istore 5, 2) := by decide +kernel
theorem dX5_scale_57 : decode cX5_scale 57 = .ok (.aload_n 0, 1) := by decide +kernel
theorem dX5_scale_58 : decode cX5_scale 58 = .ok (.getfield 12, 3) := by decide +kernel
theorem dX5_scale_61 : decode cX5_scale 61 = .ok (.getfield 203, 3) := by decide +kernel
theorem dX5_scale_64 : decode cX5_scale 64 = .ok (.iload 5, 2) := by decide +kernel
theorem dX5_scale_66 : decode cX5_scale 66 = .ok (.iaload, 1) := by decide +kernel
theorem dX5_scale_67 : decode cX5_scale 67 = .ok (.istore 6, 2) := by decide +kernel
theorem dX5_scale_69 : decode cX5_scale 69 = .ok (.aload_n 0, 1) := by decide +kernel
theorem dX5_scale_70 : decode cX5_scale 70 = .ok (.getfield 26, 3) := by decide +kernel
theorem dX5_scale_73 : decode cX5_scale 73 = .ok (.aload_n 0, 1) := by decide +kernel
theorem dX5_scale_74 : decode cX5_scale 74 = .ok (.getfield 12, 3) := by decide +kernel
theorem dX5_scale_77 : decode cX5_scale 77 = .ok (.invokevirtual 76, 3) := by decide +kernel
theorem dX5_scale_80 : decode cX5_scale 80 = .ok (.aload_n 0, 1) := by decide +kernel
theorem dX5_scale_81 : decode cX5_scale 81 = .ok (.getfield 12, 3) := by decide +kernel
theorem dX5_scale_84 : decode cX5_scale 84 = .ok (.getfield 203, 3) := by decide +kernel
theorem dX5_scale_87 : decode cX5_scale 87 = .ok (.iload 5, 2) := by decide +kernel
theorem dX5_scale_89 : decode cX5_scale 89 = .ok (.iload_n 3, 1) := by decide +kernel
theorem dX5_scale_90 : decode cX5_scale 90 = .ok (.iastore, 1) := by decide +kernel
theorem dX5_scale_91 : decode cX5_scale 91 = .ok (.aload_n 0, 1) := by decide +kernel
theorem dX5_scale_92 : decode cX5_scale 92 = .ok (.getfield 12, 3) := by decide +kernel
theorem dX5_scale_95 : decode cX5_scale 95 = .ok (.getfield 206, 3) := by decide +kernel
theorem dX5_scale_98 : decode cX5_scale 98 = .ok (.iload 5, 2) := by decide +kernel
theorem dX5_scale_100 : decode cX5_scale 100 = .ok (.iload 4, 2) := by decide +kernel
theorem dX5_scale_102 : decode cX5_scale 102 = .ok (.iastore, 1) := by decide +kernel
theorem dX5_scale_103 : decode cX5_scale 103 = .ok (.iload 6, 2) := by decide +kernel
theorem dX5_scale_105 : decode cX5_scale 105 = .ok (.ireturn, 1) := by decide +kernel
theorem dX5_scaling_0 : decode cX5_scaling 0 = .ok (.aload_n 0, 1) := by decide +kernel
theorem dX5_scaling_1 : decode cX5_scaling 1 = .ok (.getfield 12, 3) := by decide +kernel
theorem dX5_scaling_4 : decode cX5_scaling 4 = .ok (.iload_n 1, 1) := by decide +kernel
theorem dX5_scaling_5 : decode cX5_scaling 5 = .ok (.invokevirtual 115, 3) := by decide +kernel
theorem dX5_scaling_8 : decode cX5_scaling 8 = .ok (.ifCond .eq 10, 3) := by decide +kernel
theorem dX5_scaling_11 : decode cX5_scaling 11 = .ok (.iload_n 2, 1) := by decide +kernel
theorem dX5_scaling_12 : decode cX5_scaling 12 = .ok (.invokestatic 106, 3) := by decide +kernel
theorem dX5_scaling_15 : decode cX5_scaling 15 = .ok (.ifCond .ne 5, 3) := by decide +kernel
theorem dX5_scaling_18 : decode cX5_scaling 18 = .ok (.iconst (-1), 1) := by decide +kernel
theorem dX5_scaling_19 : decode cX5_scaling 19 = .ok (.ireturn, 1) := by decide +kernel
theorem dX5_scaling_20 : decode cX5_scaling 20 = .ok (.iload_n 1, 1) := by decide +kernel
theorem dX5_scaling_21 : decode cX5_scaling 21 = .ok (.iconst 3, 1) := by decide +kernel
theorem dX5_scaling_22 : decode cX5_scaling 22 = .ok (.imul, 1) := by decide +kernel
theorem dX5_scaling_23 : decode cX5_scaling 23 = .ok (.iload_n 2, 1) := by decide +kernel
theorem dX5_scaling_24 : decode cX5_scaling 24 = .ok (.iadd, 1) := by decide +kernel
theorem dX5_scaling_25 : decode cX5_scaling 25 = .ok (.istore 4, 2) := by decide +kernel
theorem dX5_scaling_27 : decode cX5_scaling 27 = .ok (.iload_n 3, 1) := by decide +kernel
theorem dX5_scaling_28 : decode cX5_scaling 28 = .ok (.tableswitch 148 0 6 #[44, 55, 66, 77, 103, 128, 138], 44) := by decide +kernel
theorem dX5_scaling_72 : decode cX5_scaling 72 = .ok (.aload_n 0, 1) := by decide +kernel
theorem dX5_scaling_73 : decode cX5_scaling 73 = .ok (.getfield 12, 3) := by decide +kernel
theorem dX5_scaling_76 : decode cX5_scaling 76 = .ok (.getfield 203, 3) := by decide +kernel
theorem dX5_scaling_79 : decode cX5_scaling 79 = .ok (.iload 4, 2) := by decide +kernel
theorem dX5_scaling_81 : decode cX5_scaling 81 = .ok (.iaload, 1) := by decide +kernel
theorem dX5_scaling_82 : decode cX5_scaling 82 = .ok (.ireturn, 1) := by decide +kernel
theorem dX5_scaling_83 : decode cX5_scaling 83 = .ok (.aload_n 0, 1) := by decide +kernel
theorem dX5_scaling_84 : decode cX5_scaling 84 = .ok (.getfield 12, 3) := by decide +kernel
theorem dX5_scaling_87 : decode cX5_scaling 87 = .ok (.getfield 206, 3) := by decide +kernel
theorem dX5_scaling_90 : decode cX5_scaling 90 = .ok (.iload 4, 2) := by decide +kernel
theorem dX5_scaling_92 : decode cX5_scaling 92 = .ok (.iaload, 1) := by decide +kernel
theorem dX5_scaling_93 : decode cX5_scaling 93 = .ok (.ireturn, 1) := by decide +kernel
theorem dX5_scaling_94 : decode cX5_scaling 94 = .ok (.aload_n 0, 1) := by decide +kernel
theorem dX5_scaling_95 : decode cX5_scaling 95 = .ok (.getfield 12, 3) := by decide +kernel
theorem dX5_scaling_98 : decode cX5_scaling 98 = .ok (.getfield 209, 3) := by decide +kernel
theorem dX5_scaling_101 : decode cX5_scaling 101 = .ok (.iload 4, 2) := by decide +kernel
theorem dX5_scaling_103 : decode cX5_scaling 103 = .ok (.iaload, 1) := by decide +kernel
theorem dX5_scaling_104 : decode cX5_scaling 104 = .ok (.ireturn, 1) := by decide +kernel
theorem dX5_scaling_105 : decode cX5_scaling 105 = .ok (.aload_n 0, 1) := by decide +kernel
theorem dX5_scaling_106 : decode cX5_scaling 106 = .ok (.getfield 12, 3) := by decide +kernel
theorem dX5_scaling_109 : decode cX5_scaling 109 = .ok (.getfield 212, 3) := by decide +kernel
theorem dX5_scaling_112 : decode cX5_scaling 112 = .ok (.iload 4, 2) := by decide +kernel
theorem dX5_scaling_114 : decode cX5_scaling 114 = .ok (.iaload, 1) := by decide +kernel
theorem dX5_scaling_115 : decode cX5_scaling 115 = .ok (.aload_n 0, 1) := by decide +kernel
theorem dX5_scaling_116 : decode cX5_scaling 116 = .ok (.getfield 12, 3) := by decide +kernel
theorem dX5_scaling_119 : decode cX5_scaling 119 = .ok (.getfield 209, 3) := by decide +kernel
theorem dX5_scaling_122 : decode cX5_scaling 122 = .ok (.iload 4, 2) := by decide +kernel
theorem dX5_scaling_124 : decode cX5_scaling 124 = .ok (.iaload, 1) := by decide +kernel
theorem dX5_scaling_125 : decode cX5_scaling 125 = .ok (.bipush (-5), 2) := by decide +kernel
theorem dX5_scaling_127 : decode cX5_scaling 127 = .ok (.invokestatic 215, 3) := by decide +kernel
theorem dX5_scaling_130 : decode cX5_scaling 130 = .ok (.ireturn, 1) := by decide +kernel
theorem dX5_scaling_131 : decode cX5_scaling 131 = .ok (.aload_n 0, 1) := by decide +kernel
theorem dX5_scaling_132 : decode cX5_scaling 132 = .ok (.getfield 12, 3) := by decide +kernel
theorem dX5_scaling_135 : decode cX5_scaling 135 = .ok (.iload_n 1, 1) := by decide +kernel
theorem dX5_scaling_136 : decode cX5_scaling 136 = .ok (.iload_n 2, 1) := by decide +kernel
theorem dX5_scaling_137 : decode cX5_scaling 137 = .ok (.invokevirtual 218, 3) := by decide +kernel
theorem dX5_scaling_140 : decode cX5_scaling 140 = .ok (.aload_n 0, 1) := by decide +kernel
theorem dX5_scaling_141 : decode cX5_scaling 141 = .ok (.getfield 12, 3) := by decide +kernel
theorem dX5_scaling_144 : decode cX5_scaling 144 = .ok (.getfield 209, 3) := by decide +kernel
theorem dX5_scaling_147 : decode cX5_scaling 147 = .ok (.iload 4, 2) := by decide +kernel
theorem dX5_scaling_149 : decode cX5_scaling 149 = .ok (.iaload, 1) := by decide +kernel
theorem dX5_scaling_150 : decode cX5_scaling 150 = .ok (.bipush (-5), 2) := by decide +kernel
theorem dX5_scaling_152 : decode cX5_scaling 152 = .ok (.invokestatic 215, 3) := by decide +kernel
theorem dX5_scaling_155 : decode cX5_scaling 155 = .ok (.ireturn, 1) := by decide +kernel
theorem dX5_scaling_156 : decode cX5_scaling 156 = .ok (.aload_n 0, 1) := by decide +kernel
theorem dX5_scaling_157 : decode cX5_scaling 157 = .ok (.getfield 12, 3) := by decide +kernel
theorem dX5_scaling_160 : decode cX5_scaling 160 = .ok (.iload_n 1, 1) := by decide +kernel
theorem dX5_scaling_161 : decode cX5_scaling 161 = .ok (.iload_n 2, 1) := by decide +kernel
theorem dX5_scaling_162 : decode cX5_scaling 162 = .ok (.invokevirtual 221, 3) := by decide +kernel
theorem dX5_scaling_165 : decode cX5_scaling 165 = .ok (.ireturn, 1) := by decide +kernel
theorem dX5_scaling_166 : decode cX5_scaling 166 = .ok (.aload_n 0, 1) := by decide +kernel
theorem dX5_scaling_167 : decode cX5_scaling 167 = .ok (.getfield 12, 3) := by decide +kernel
theorem dX5_scaling_170 : decode cX5_scaling 170 = .ok (.iload_n 1, 1) := by decide +kernel
theorem dX5_scaling_171 : decode cX5_scaling 171 = .ok (.iload_n 2, 1) := by decide +kernel
theorem dX5_scaling_172 : decode cX5_scaling 172 = .ok (.invokevirtual 224, 3) := by decide +kernel
theorem dX5_scaling_175 : decode cX5_scaling 175 = .ok (.ireturn, 1) := by decide +kernel
theorem dX5_scaling_176 : decode cX5_scaling 176 = .ok (.bipush (-2), 2) := by decide +kernel
theorem dX5_scaling_178 : decode cX5_scaling 178 = .ok (.ireturn, 1) := by decide +kernel
theorem dX5_scaled_0 : decode cX5_scaled 0 = .ok (.aload_n 0, 1) := by decide +kernel
theorem dX5_scaled_1 : decode cX5_scaled 1 = .ok (.getfield 12, 3) := by decide +kernel
theorem dX5_scaled_4 : decode cX5_scaled 4 = .ok (.iload_n 1, 1) := by decide +kernel
theorem dX5_scaled_5 : decode cX5_scaled 5 = .ok (.invokevirtual 115, 3) := by decide +kernel
theorem dX5_scaled_8 : decode cX5_scaled 8 = .ok (.ifCond .eq 10, 3) := by decide +kernel
theorem dX5_scaled_11 : decode cX5_scaled 11 = .ok (.iload_n 2, 1) := by decide +kernel
theorem dX5_scaled_12 : decode cX5_scaled 12 = .ok (.invokestatic 106, 3) := by decide +kernel
theorem dX5_scaled_15 : decode cX5_scaled 15 = .ok (.ifCond .ne 5, 3) := by decide +kernel
theorem dX5_scaled_18 : decode cX5_scaled 18 = .ok (.iconst (-1), 1) := by decide +kernel
theorem dX5_scaled_19 : decode cX5_scaled 19 = .ok (.ireturn, 1) := by decide +kernel
theorem dX5_scaled_20 : decode cX5_scaled 20 = .ok (.iload_n 3, 1) := by decide +kernel
theorem dX5_scaled_21 : decode cX5_scaled 21 = .ok (.iconst 0, 1) := by decide +kernel
theorem dX5_scaled_22 : decode cX5_scaled 22 = .ok (.bipush 100, 2) := by decide +kernel
theorem dX5_scaled_24 : decode cX5_scaled 24 = .ok (.invokestatic 80, 3) := by decide +kernel
theorem dX5_scaled_27 : decode cX5_scaled 27 = .ok (.ifCond .ne 6, 3) := by decide +kernel
theorem dX5_scaled_30 : decode cX5_scaled 30 = .ok (.bipush (-2), 2) := by decide +kernel
theorem dX5_scaled_32 : decode cX5_scaled 32 = .ok (.ireturn, 1) := by decide +kernel
theorem dX5_scaled_33 : decode cX5_scaled 33 = .ok (.aload_n 0, 1) := by decide +kernel
theorem dX5_scaled_34 : decode cX5_scaled 34 = .ok (.getfield 12, 3) := by decide +kernel
theorem dX5_scaled_37 : decode cX5_scaled 37 = .ok (.iload_n 1, 1) := by decide +kernel
theorem dX5_scaled_38 : decode cX5_scaled 38 = .ok (.iconst 3, 1) := by decide +kernel
theorem dX5_scaled_39 : decode cX5_scaled 39 = .ok (.imul, 1) := by decide +kernel
theorem dX5_scaled_40 : decode cX5_scaled 40 = .ok (.iload_n 2, 1) := by decide +kernel
theorem dX5_scaled_41 : decode cX5_scaled 41 = .ok (.iadd, 1) := by decide +kernel
theorem dX5_scaled_42 : decode cX5_scaled 42 = .ok (.iload_n 3, 1) := by decide +kernel
theorem dX5_scaled_43 : decode cX5_scaled 43 = .ok (.invokevirtual 227, 3) := by decide +kernel
theorem dX5_scaled_46 : decode cX5_scaled 46 = .ok (.ireturn, 1) := by decide +kernel
theorem dX5_module_0 : decode cX5_module 0 = .ok (.aload_n 0, 1) := by decide +kernel
theorem dX5_module_1 : decode cX5_module 1 = .ok (.getfield 12, 3) := by decide +kernel
theorem dX5_module_4 : decode cX5_module 4 = .ok (.iload_n 1, 1) := by decide +kernel
theorem dX5_module_5 : decode cX5_module 5 = .ok (.invokevirtual 164, 3) := by decide +kernel
theorem dX5_module_8 : decode cX5_module 8 = .ok (.ifCond .eq 14, 3) := by decide +kernel
theorem dX5_module_11 : decode cX5_module 11 = .ok (.aload_n 0, 1) := by decide +kernel
theorem dX5_module_12 : decode cX5_module 12 = .ok (.getfield 12, 3) := by decide +kernel
theorem dX5_module_15 : decode cX5_module 15 = .ok (.iload_n 2, 1) := by decide +kernel
theorem dX5_module_16 : decode cX5_module 16 = .ok (.invokevirtual 90, 3) := by decide +kernel
theorem dX5_module_19 : decode cX5_module 19 = .ok (.ifCond .ne 5, 3) := by decide +kernel
theorem dX5_module_22 : decode cX5_module 22 = .ok (.iconst (-1), 1) := by decide +kernel
theorem dX5_module_23 : decode cX5_module 23 = .ok (.ireturn, 1) := by decide +kernel
theorem dX5_module_24 : decode cX5_module 24 = .ok (.aload_n 0, 1) := by decide +kernel
theorem dX5_module_25 : decode cX5_module 25 = .ok (.getfield 33, 3) := by decide +kernel
theorem dX5_module_28 : decode cX5_module 28 = .ok (.aload_n 0, 1) := by decide +kernel
theorem dX5_module_29 : decode cX5_module 29 = .ok (.getfield 12, 3) := by decide +kernel
theorem dX5_module_32 : decode cX5_module 32 = .ok (.iload_n 1, 1) := by decide +kernel
theorem dX5_module_33 : decode cX5_module 33 = .ok (.invokevirtual 129, 3) := by decide +kernel
theorem dX5_module_36 : decode cX5_module 36 = .ok (.iload_n 3, 1) := by decide +kernel
theorem dX5_module_37 : decode cX5_module 37 = .ok (.tableswitch 118 0 4 #[35, 61, 82, 95, 109], 35) := by decide +kernel
theorem dX5_module_72 : decode cX5_module 72 = .ok (.aload_n 0, 1) := by decide +kernel
theorem dX5_module_73 : decode cX5_module 73 = .ok (.getfield 33, 3) := by decide +kernel
theorem dX5_module_76 : decode cX5_module 76 = .ok (.iload_n 2, 1) := by decide +kernel
theorem dX5_module_77 : decode cX5_module 77 = .ok (.invokevirtual 230, 3) := by decide +kernel
theorem dX5_module_80 : decode cX5_module 80 = .ok (.ifCond .eq 15, 3) := by decide +kernel
theorem dX5_module_83 : decode cX5_module 83 = .ok (.aload_n 0, 1) := by decide +kernel
theorem dX5_module_84 : decode cX5_module 84 = .ok (.getfield 33, 3) := by decide +kernel
theorem dX5_module_87 : decode cX5_module 87 = .ok (.getfield 233, 3) := by decide +kernel
theorem dX5_module_90 : decode cX5_module 90 = .ok (.iload_n 2, 1) := by decide +kernel
theorem dX5_module_91 : decode cX5_module 91 = .ok (.iaload, 1) := by decide +kernel
theorem dX5_module_92 : decode cX5_module 92 = .ok (.goto 5, 3) := by decide +kernel
theorem dX5_module_95 : decode cX5_module 95 = .ok (.bipush (-5), 2) := by decide +kernel
theorem dX5_module_97 : decode cX5_module 97 = .ok (.ireturn, 1) := by decide +kernel
theorem dX5_module_98 : decode cX5_module 98 = .ok (.aload_n 0, 1) := by decide +kernel
theorem dX5_module_99 : decode cX5_module 99 = .ok (.getfield 33, 3) := by decide +kernel
theorem dX5_module_102 : decode cX5_module 102 = .ok (.aload_n 0, 1) := by decide +kernel
theorem dX5_module_103 : decode cX5_module 103 = .ok (.getfield 12, 3) := by decide +kernel
theorem dX5_module_106 : decode cX5_module 106 = .ok (.iload_n 2, 1) := by decide +kernel
theorem dX5_module_107 : decode cX5_module 107 = .ok (.invokevirtual 236, 3) := by decide +kernel
theorem dX5_module_110 : decode cX5_module 110 = .ok (.ifCond .eq 7, 3) := by decide +kernel
theorem dX5_module_113 : decode cX5_module 113 = .ok (.iconst 1, 1) := by decide +kernel
theorem dX5_module_114 : decode cX5_module 114 = .ok (.goto 4, 3) := by decide +kernel
theorem dX5_module_117 : decode cX5_module 117 = .ok (.iconst 0, 1) := by decide +kernel
theorem dX5_module_118 : decode cX5_module 118 = .ok (.ireturn, 1) := by decide +kernel
theorem dX5_module_119 : decode cX5_module 119 = .ok (.aload_n 0, 1) := by decide +kernel
theorem dX5_module_120 : decode cX5_module 120 = .ok (.getfield 33, 3) := by decide +kernel
theorem dX5_module_123 : decode cX5_module 123 = .ok (.aload_n 0, 1) := by decide +kernel
theorem dX5_module_124 : decode cX5_module 124 = .ok (.getfield 12, 3) := by decide +kernel
theorem dX5_module_127 : decode cX5_module 127 = .ok (.iload_n 2, 1) := by decide +kernel
theorem dX5_module_128 : decode cX5_module 128 = .ok (.invokevirtual 240, 3) := by decide +kernel
theorem dX5_module_131 : decode cX5_module 131 = .ok (.ireturn, 1) := by decide +kernel
theorem dX5_module_132 : decode cX5_module 132 = .ok (.aload_n 0, 1) := by decide +kernel
theorem dX5_module_133 : decode cX5_module 133 = .ok (.getfield 33, 3) := by decide +kernel
theorem dX5_module_136 : decode cX5_module 136 = .ok (.aload_n 0, 1) := by decide +kernel
theorem dX5_module_137 : decode cX5_module 137 = .ok (.getfield 12, 3) := by decide +kernel
theorem dX5_module_140 : decode cX5_module 140 = .ok (.iload_n 2, 1) := by decide +kernel
theorem dX5_module_141 : decode cX5_module 141 = .ok (.iconst 2, 1) := by decide +kernel
theorem dX5_module_142 : decode cX5_module 142 = .ok (.invokevirtual 244, 3) := by decide +kernel
theorem dX5_module_145 : decode cX5_module 145 = .ok (.ireturn, 1) := by decide +kernel
theorem dX5_module_146 : decode cX5_module 146 = .ok (.aload_n 0, 1) := by decide +kernel
theorem dX5_module_147 : decode cX5_module 147 = .ok (.getfield 12, 3) := by decide +kernel
theorem dX5_module_150 : decode cX5_module 150 = .ok (.iload_n 2, 1) := by decide +kernel
theorem dX5_module_151 : decode cX5_module 151 = .ok (.invokevirtual 248, 3) := by decide +kernel
theorem dX5_module_154 : decode cX5_module 154 = .ok (.ireturn, 1) := by decide +kernel
theorem dX5_module_155 : decode cX5_module 155 = .ok (.bipush (-2), 2) := by decide +kernel
theorem dX5_module_157 : decode cX5_module 157 = .ok (.ireturn, 1) := by decide +kernel
theorem dX5_student_0 : decode cX5_student 0 = .ok (.aload_n 0, 1) := by decide +kernel
theorem dX5_student_1 : decode cX5_student 1 = .ok (.getfield 12, 3) := by decide +kernel
theorem dX5_student_4 : decode cX5_student 4 = .ok (.iload_n 1, 1) := by decide +kernel
theorem dX5_student_5 : decode cX5_student 5 = .ok (.invokevirtual 164, 3) := by decide +kernel
theorem dX5_student_8 : decode cX5_student 8 = .ok (.ifCond .ne 5, 3) := by decide +kernel
theorem dX5_student_11 : decode cX5_student 11 = .ok (.iconst (-1), 1) := by decide +kernel
theorem dX5_student_12 : decode cX5_student 12 = .ok (.ireturn, 1) := by decide +kernel
theorem dX5_student_13 : decode cX5_student 13 = .ok (.aload_n 0, 1) := by decide +kernel
theorem dX5_student_14 : decode cX5_student 14 = .ok (.getfield 33, 3) := by decide +kernel
theorem dX5_student_17 : decode cX5_student 17 = .ok (.aload_n 0, 1) := by decide +kernel
theorem dX5_student_18 : decode cX5_student 18 = .ok (.getfield 12, 3) := by decide +kernel
theorem dX5_student_21 : decode cX5_student 21 = .ok (.iload_n 1, 1) := by decide +kernel
theorem dX5_student_22 : decode cX5_student 22 = .ok (.invokevirtual 129, 3) := by decide +kernel
theorem dX5_student_25 : decode cX5_student 25 = .ok (.iload_n 2, 1) := by decide +kernel
theorem dX5_student_26 : decode cX5_student 26 = .ok (.tableswitch 167 0 8 #[50, 60, 83, 91, 99, 112, 125, 149, 158], 50) := by decide +kernel
theorem dX5_student_76 : decode cX5_student 76 = .ok (.aload_n 0, 1) := by decide +kernel
theorem dX5_student_77 : decode cX5_student 77 = .ok (.getfield 12, 3) := by decide +kernel
theorem dX5_student_80 : decode cX5_student 80 = .ok (.getfield 112, 3) := by decide +kernel
theorem dX5_student_83 : decode cX5_student 83 = .ok (.iload_n 1, 1) := by decide +kernel
theorem dX5_student_84 : decode cX5_student 84 = .ok (.iaload, 1) := by decide +kernel
theorem dX5_student_85 : decode cX5_student 85 = .ok (.ireturn, 1) := by decide +kernel
theorem dX5_student_86 : decode cX5_student 86 = .ok (.aload_n 0, 1) := by decide +kernel
theorem dX5_student_87 : decode cX5_student 87 = .ok (.getfield 33, 3) := by decide +kernel
theorem dX5_student_90 : decode cX5_student 90 = .ok (.getfield 251, 3) := by decide +kernel
theorem dX5_student_93 : decode cX5_student 93 = .ok (.ifCond .eq 13, 3) := by decide +kernel
theorem dX5_student_96 : decode cX5_student 96 = .ok (.aload_n 0, 1) := by decide +kernel
theorem dX5_student_97 : decode cX5_student 97 = .ok (.getfield 33, 3) := by decide +kernel
theorem dX5_student_100 : decode cX5_student 100 = .ok (.getfield 254, 3) := by decide +kernel
theorem dX5_student_103 : decode cX5_student 103 = .ok (.goto 5, 3) := by decide +kernel
theorem dX5_student_106 : decode cX5_student 106 = .ok (.bipush (-5), 2) := by decide +kernel
theorem dX5_student_108 : decode cX5_student 108 = .ok (.ireturn, 1) := by decide +kernel
theorem dX5_student_109 : decode cX5_student 109 = .ok (.aload_n 0, 1) := by decide +kernel
theorem dX5_student_110 : decode cX5_student 110 = .ok (.getfield 33, 3) := by decide +kernel
theorem dX5_student_113 : decode cX5_student 113 = .ok (.getfield 257, 3) := by decide +kernel
theorem dX5_student_116 : decode cX5_student 116 = .ok (.ireturn, 1) := by decide +kernel
theorem dX5_student_117 : decode cX5_student 117 = .ok (.aload_n 0, 1) := by decide +kernel
theorem dX5_student_118 : decode cX5_student 118 = .ok (.getfield 33, 3) := by decide +kernel
theorem dX5_student_121 : decode cX5_student 121 = .ok (.getfield 260, 3) := by decide +kernel
theorem dX5_student_124 : decode cX5_student 124 = .ok (.ireturn, 1) := by decide +kernel
theorem dX5_student_125 : decode cX5_student 125 = .ok (.aload_n 0, 1) := by decide +kernel
theorem dX5_student_126 : decode cX5_student 126 = .ok (.getfield 33, 3) := by decide +kernel
theorem dX5_student_129 : decode cX5_student 129 = .ok (.aload_n 0, 1) := by decide +kernel
theorem dX5_student_130 : decode cX5_student 130 = .ok (.getfield 12, 3) := by decide +kernel
theorem dX5_student_133 : decode cX5_student 133 = .ok (.iconst 2, 1) := by decide +kernel
theorem dX5_student_134 : decode cX5_student 134 = .ok (.invokevirtual 263, 3) := by decide +kernel
theorem dX5_student_137 : decode cX5_student 137 = .ok (.ireturn, 1) := by decide +kernel
theorem dX5_student_138 : decode cX5_student 138 = .ok (.aload_n 0, 1) := by decide +kernel
theorem dX5_student_139 : decode cX5_student 139 = .ok (.getfield 33, 3) := by decide +kernel
theorem dX5_student_142 : decode cX5_student 142 = .ok (.aload_n 0, 1) := by decide +kernel
theorem dX5_student_143 : decode cX5_student 143 = .ok (.getfield 12, 3) := by decide +kernel
theorem dX5_student_146 : decode cX5_student 146 = .ok (.iconst 3, 1) := by decide +kernel
theorem dX5_student_147 : decode cX5_student 147 = .ok (.invokevirtual 263, 3) := by decide +kernel
theorem dX5_student_150 : decode cX5_student 150 = .ok (.ireturn, 1) := by decide +kernel
theorem dX5_student_151 : decode cX5_student 151 = .ok (.aload_n 0, 1) := by decide +kernel
theorem dX5_student_152 : decode cX5_student 152 = .ok (.getfield 40, 3) := by decide +kernel
theorem dX5_student_155 : decode cX5_student 155 = .ok (.aload_n 0, 1) := by decide +kernel
theorem dX5_student_156 : decode cX5_student 156 = .ok (.getfield 12, 3) := by decide +kernel
theorem dX5_student_159 : decode cX5_student 159 = .ok (.aload_n 0, 1) := by decide +kernel
theorem dX5_student_160 : decode cX5_student 160 = .ok (.getfield 33, 3) := by decide +kernel
theorem dX5_student_163 : decode cX5_student 163 = .ok (.invokevirtual 266, 3) := by decide +kernel
theorem dX5_student_166 : decode cX5_student 166 = .ok (.aload_n 0, 1) := by decide +kernel
theorem dX5_student_167 : decode cX5_student 167 = .ok (.getfield 40, 3) := by decide +kernel
theorem dX5_student_170 : decode cX5_student 170 = .ok (.iload_n 1, 1) := by decide +kernel
theorem dX5_student_171 : decode cX5_student 171 = .ok (.invokevirtual 269, 3) := by decide +kernel
theorem dX5_student_174 : decode cX5_student 174 = .ok (.ireturn, 1) := by decide +kernel
theorem dX5_student_175 : decode cX5_student 175 = .ok (.aload_n 0, 1) := by decide +kernel
theorem dX5_student_176 : decode cX5_student 176 = .ok (.getfield 12, 3) := by decide +kernel
theorem dX5_student_179 : decode cX5_student 179 = .ok (.iload_n 1, 1) := by decide +kernel
theorem dX5_student_180 : decode cX5_student 180 = .ok (.invokevirtual 147, 3) := by decide +kernel
theorem dX5_student_183 : decode cX5_student 183 = .ok (.ireturn, 1) := by decide +kernel
theorem dX5_student_184 : decode cX5_student 184 = .ok (.aload_n 0, 1) := by decide +kernel
theorem dX5_student_185 : decode cX5_student 185 = .ok (.getfield 12, 3) := by decide +kernel
theorem dX5_student_188 : decode cX5_student 188 = .ok (.iload_n 1, 1) := by decide +kernel
theorem dX5_student_189 : decode cX5_student 189 = .ok (.invokevirtual 272, 3) := by decide +kernel
theorem dX5_student_192 : decode cX5_student 192 = .ok (.ireturn, 1) := by decide +kernel
theorem dX5_student_193 : decode cX5_student 193 = .ok (.bipush (-2), 2) := by decide +kernel
theorem dX5_student_195 : decode cX5_student 195 = .ok (.ireturn, 1) := by decide +kernel
theorem dX5_again_0 : decode cX5_again 0 = .ok (.aload_n 0, 1) := by decide +kernel
theorem dX5_again_1 : decode cX5_again 1 = .ok (.getfield 12, 3) := by decide +kernel
theorem dX5_again_4 : decode cX5_again 4 = .ok (.iload_n 1, 1) := by decide +kernel
theorem dX5_again_5 : decode cX5_again 5 = .ok (.invokevirtual 164, 3) := by decide +kernel
theorem dX5_again_8 : decode cX5_again 8 = .ok (.ifCond .ne 5, 3) := by decide +kernel
theorem dX5_again_11 : decode cX5_again 11 = .ok (.iconst (-1), 1) := by decide +kernel
theorem dX5_again_12 : decode cX5_again 12 = .ok (.ireturn, 1) := by decide +kernel
theorem dX5_again_13 : decode cX5_again 13 = .ok (.aload_n 0, 1) := by decide +kernel
theorem dX5_again_14 : decode cX5_again 14 = .ok (.getfield 33, 3) := by decide +kernel
theorem dX5_again_17 : decode cX5_again 17 = .ok (.aload_n 0, 1) := by decide +kernel
theorem dX5_again_18 : decode cX5_again 18 = .ok (.getfield 12, 3) := by decide +kernel
theorem dX5_again_21 : decode cX5_again 21 = .ok (.iload_n 1, 1) := by decide +kernel
theorem dX5_again_22 : decode cX5_again 22 = .ok (.invokevirtual 129, 3) := by decide +kernel
theorem dX5_again_25 : decode cX5_again 25 = .ok (.aload_n 0, 1) := by decide +kernel
theorem dX5_again_26 : decode cX5_again 26 = .ok (.getfield 33, 3) := by decide +kernel
theorem dX5_again_29 : decode cX5_again 29 = .ok (.aload_n 0, 1) := by decide +kernel
theorem dX5_again_30 : decode cX5_again 30 = .ok (.getfield 12, 3) := by decide +kernel
theorem dX5_again_33 : decode cX5_again 33 = .ok (.invokevirtual 275, 3) := by decide +kernel
theorem dX5_again_36 : decode cX5_again 36 = .ok (.ireturn, 1) := by decide +kernel
theorem dX5_why_0 : decode cX5_why 0 = .ok (.aload_n 0, 1) := by decide +kernel
theorem dX5_why_1 : decode cX5_why 1 = .ok (.getfield 12, 3) := by decide +kernel
theorem dX5_why_4 : decode cX5_why 4 = .ok (.iload_n 1, 1) := by decide +kernel
theorem dX5_why_5 : decode cX5_why 5 = .ok (.invokevirtual 164, 3) := by decide +kernel
theorem dX5_why_8 : decode cX5_why 8 = .ok (.ifCond .ne 5, 3) := by decide +kernel
theorem dX5_why_11 : decode cX5_why 11 = .ok (.iconst (-1), 1) := by decide +kernel
theorem dX5_why_12 : decode cX5_why 12 = .ok (.ireturn, 1) := by decide +kernel
theorem dX5_why_13 : decode cX5_why 13 = .ok (.iload_n 2, 1) := by decide +kernel
theorem dX5_why_14 : decode cX5_why 14 = .ok (.iconst 0, 1) := by decide +kernel
theorem dX5_why_15 : decode cX5_why 15 = .ok (.iconst 1, 1) := by decide +kernel
theorem dX5_why_16 : decode cX5_why 16 = .ok (.invokestatic 80, 3) := by decide +kernel
theorem dX5_why_19 : decode cX5_why 19 = .ok (.ifCond .ne 6, 3) := by decide +kernel
theorem dX5_why_22 : decode cX5_why 22 = .ok (.bipush (-2), 2) := by decide +kernel
theorem dX5_why_24 : decode cX5_why 24 = .ok (.ireturn, 1) := by decide +kernel
theorem dX5_why_25 : decode cX5_why 25 = .ok (.aload_n 0, 1) := by decide +kernel
theorem dX5_why_26 : decode cX5_why 26 = .ok (.getfield 33, 3) := by decide +kernel
theorem dX5_why_29 : decode cX5_why 29 = .ok (.aload_n 0, 1) := by decide +kernel
theorem dX5_why_30 : decode cX5_why 30 = .ok (.getfield 12, 3) := by decide +kernel
theorem dX5_why_33 : decode cX5_why 33 = .ok (.iload_n 1, 1) := by decide +kernel
theorem dX5_why_34 : decode cX5_why 34 = .ok (.invokevirtual 129, 3) := by decide +kernel
theorem dX5_why_37 : decode cX5_why 37 = .ok (.aload_n 0, 1) := by decide +kernel
theorem dX5_why_38 : decode cX5_why 38 = .ok (.getfield 33, 3) := by decide +kernel
theorem dX5_why_41 : decode cX5_why 41 = .ok (.invokevirtual 279, 3) := by decide +kernel
theorem dX5_why_44 : decode cX5_why 44 = .ok (.istore_n 3, 1) := by decide +kernel
theorem dX5_why_45 : decode cX5_why 45 = .ok (.iload_n 2, 1) := by decide +kernel
theorem dX5_why_46 : decode cX5_why 46 = .ok (.ifCond .ne 5, 3) := by decide +kernel
theorem dX5_why_49 : decode cX5_why 49 = .ok (.iload_n 3, 1) := by decide +kernel
theorem dX5_why_50 : decode cX5_why 50 = .ok (.ireturn, 1) := by decide +kernel
theorem dX5_why_51 : decode cX5_why 51 = .ok (.iload_n 3, 1) := by decide +kernel
theorem dX5_why_52 : decode cX5_why 52 = .ok (.iconst 1, 1) := by decide +kernel
theorem dX5_why_53 : decode cX5_why 53 = .ok (.if_icmp .ne 15, 3) := by decide +kernel
theorem dX5_why_56 : decode cX5_why 56 = .ok (.aload_n 0, 1) := by decide +kernel
theorem dX5_why_57 : decode cX5_why 57 = .ok (.getfield 33, 3) := by decide +kernel
theorem dX5_why_60 : decode cX5_why 60 = .ok (.aload_n 0, 1) := by decide +kernel
theorem dX5_why_61 : decode cX5_why 61 = .ok (.getfield 12, 3) := by decide +kernel
theorem dX5_why_64 : decode cX5_why 64 = .ok (.invokevirtual 283, 3) := by decide +kernel
theorem dX5_why_67 : decode cX5_why 67 = .ok (.ireturn, 1) := by decide +kernel
theorem dX5_why_68 : decode cX5_why 68 = .ok (.iload_n 3, 1) := by decide +kernel
theorem dX5_why_69 : decode cX5_why 69 = .ok (.iconst 2, 1) := by decide +kernel
theorem dX5_why_70 : decode cX5_why 70 = .ok (.if_icmp .ne 15, 3) := by decide +kernel
theorem dX5_why_73 : decode cX5_why 73 = .ok (.aload_n 0, 1) := by decide +kernel
theorem dX5_why_74 : decode cX5_why 74 = .ok (.getfield 33, 3) := by decide +kernel
theorem dX5_why_77 : decode cX5_why 77 = .ok (.aload_n 0, 1) := by decide +kernel
theorem dX5_why_78 : decode cX5_why 78 = .ok (.getfield 12, 3) := by decide +kernel
theorem dX5_why_81 : decode cX5_why 81 = .ok (.invokevirtual 286, 3) := by decide +kernel
theorem dX5_why_84 : decode cX5_why 84 = .ok (.ireturn, 1) := by decide +kernel
theorem dX5_why_85 : decode cX5_why 85 = .ok (.aload_n 0, 1) := by decide +kernel
theorem dX5_why_86 : decode cX5_why 86 = .ok (.getfield 33, 3) := by decide +kernel
theorem dX5_why_89 : decode cX5_why 89 = .ok (.getfield 254, 3) := by decide +kernel
theorem dX5_why_92 : decode cX5_why 92 = .ok (.bipush 100, 2) := by decide +kernel
theorem dX5_why_94 : decode cX5_why 94 = .ok (.getstatic 289, 3) := by decide +kernel
theorem dX5_why_97 : decode cX5_why 97 = .ok (.aload_n 0, 1) := by decide +kernel
theorem dX5_why_98 : decode cX5_why 98 = .ok (.getfield 33, 3) := by decide +kernel
theorem dX5_why_101 : decode cX5_why 101 = .ok (.getfield 257, 3) := by decide +kernel
theorem dX5_why_104 : decode cX5_why 104 = .ok (.iaload, 1) := by decide +kernel
theorem dX5_why_105 : decode cX5_why 105 = .ok (.imul, 1) := by decide +kernel
theorem dX5_why_106 : decode cX5_why 106 = .ok (.isub, 1) := by decide +kernel
theorem dX5_why_107 : decode cX5_why 107 = .ok (.ireturn, 1) := by decide +kernel
theorem dX5_ranked_0 : decode cX5_ranked 0 = .ok (.iload_n 1, 1) := by decide +kernel
theorem dX5_ranked_1 : decode cX5_ranked 1 = .ok (.ifCond .lt 14, 3) := by decide +kernel
theorem dX5_ranked_4 : decode cX5_ranked 4 = .ok (.iload_n 1, 1) := by decide +kernel
theorem dX5_ranked_5 : decode cX5_ranked 5 = .ok (.aload_n 0, 1) := by decide +kernel
theorem dX5_ranked_6 : decode cX5_ranked 6 = .ok (.getfield 12, 3) := by decide +kernel
theorem dX5_ranked_9 : decode cX5_ranked 9 = .ok (.getfield 109, 3) := by decide +kernel
theorem dX5_ranked_12 : decode cX5_ranked 12 = .ok (.if_icmp .lt 5, 3) := by decide +kernel
theorem dX5_ranked_15 : decode cX5_ranked 15 = .ok (.iconst (-1), 1) := by decide +kernel
theorem dX5_ranked_16 : decode cX5_ranked 16 = .ok (.ireturn, 1) := by decide +kernel
theorem dX5_ranked_17 : decode cX5_ranked 17 = .ok (.aload_n 0, 1) := by decide +kernel
theorem dX5_ranked_18 : decode cX5_ranked 18 = .ok (.getfield 40, 3) := by decide +kernel
theorem dX5_ranked_21 : decode cX5_ranked 21 = .ok (.aload_n 0, 1) := by decide +kernel
theorem dX5_ranked_22 : decode cX5_ranked 22 = .ok (.getfield 12, 3) := by decide +kernel
theorem dX5_ranked_25 : decode cX5_ranked 25 = .ok (.aload_n 0, 1) := by decide +kernel
theorem dX5_ranked_26 : decode cX5_ranked 26 = .ok (.getfield 33, 3) := by decide +kernel
theorem dX5_ranked_29 : decode cX5_ranked 29 = .ok (.invokevirtual 266, 3) := by decide +kernel
theorem dX5_ranked_32 : decode cX5_ranked 32 = .ok (.aload_n 0, 1) := by decide +kernel
theorem dX5_ranked_33 : decode cX5_ranked 33 = .ok (.getfield 40, 3) := by decide +kernel
theorem dX5_ranked_36 : decode cX5_ranked 36 = .ok (.iload_n 1, 1) := by decide +kernel
theorem dX5_ranked_37 : decode cX5_ranked 37 = .ok (.invokevirtual 292, 3) := by decide +kernel
theorem dX5_ranked_40 : decode cX5_ranked 40 = .ok (.ireturn, 1) := by decide +kernel
theorem dX5_ofClass_0 : decode cX5_ofClass 0 = .ok (.iload_n 1, 1) := by decide +kernel
theorem dX5_ofClass_1 : decode cX5_ofClass 1 = .ok (.iconst 0, 1) := by decide +kernel
theorem dX5_ofClass_2 : decode cX5_ofClass 2 = .ok (.iconst 5, 1) := by decide +kernel
theorem dX5_ofClass_3 : decode cX5_ofClass 3 = .ok (.invokestatic 80, 3) := by decide +kernel
theorem dX5_ofClass_6 : decode cX5_ofClass 6 = .ok (.ifCond .ne 5, 3) := by decide +kernel
theorem dX5_ofClass_9 : decode cX5_ofClass 9 = .ok (.iconst (-1), 1) := by decide +kernel
theorem dX5_ofClass_10 : decode cX5_ofClass 10 = .ok (.ireturn, 1) := by decide +kernel
theorem dX5_ofClass_11 : decode cX5_ofClass 11 = .ok (.iload_n 2, 1) := by decide +kernel
theorem dX5_ofClass_12 : decode cX5_ofClass 12 = .ok (.iconst 0, 1) := by decide +kernel
theorem dX5_ofClass_13 : decode cX5_ofClass 13 = .ok (.iconst 2, 1) := by decide +kernel
theorem dX5_ofClass_14 : decode cX5_ofClass 14 = .ok (.invokestatic 80, 3) := by decide +kernel
theorem dX5_ofClass_17 : decode cX5_ofClass 17 = .ok (.ifCond .ne 6, 3) := by decide +kernel
theorem dX5_ofClass_20 : decode cX5_ofClass 20 = .ok (.bipush (-2), 2) := by decide +kernel
theorem dX5_ofClass_22 : decode cX5_ofClass 22 = .ok (.ireturn, 1) := by decide +kernel
theorem dX5_ofClass_23 : decode cX5_ofClass 23 = .ok (.aload_n 0, 1) := by decide +kernel
theorem dX5_ofClass_24 : decode cX5_ofClass 24 = .ok (.getfield 40, 3) := by decide +kernel
theorem dX5_ofClass_27 : decode cX5_ofClass 27 = .ok (.aload_n 0, 1) := by decide +kernel
theorem dX5_ofClass_28 : decode cX5_ofClass 28 = .ok (.getfield 12, 3) := by decide +kernel
theorem dX5_ofClass_31 : decode cX5_ofClass 31 = .ok (.aload_n 0, 1) := by decide +kernel
theorem dX5_ofClass_32 : decode cX5_ofClass 32 = .ok (.getfield 33, 3) := by decide +kernel
theorem dX5_ofClass_35 : decode cX5_ofClass 35 = .ok (.invokevirtual 266, 3) := by decide +kernel
theorem dX5_ofClass_38 : decode cX5_ofClass 38 = .ok (.iload_n 2, 1) := by decide +kernel
theorem dX5_ofClass_39 : decode cX5_ofClass 39 = .ok (.ifCond .ne 12, 3) := by decide +kernel
theorem dX5_ofClass_42 : decode cX5_ofClass 42 = .ok (.aload_n 0, 1) := by decide +kernel
theorem dX5_ofClass_43 : decode cX5_ofClass 43 = .ok (.getfield 40, 3) := by decide +kernel
theorem dX5_ofClass_46 : decode cX5_ofClass 46 = .ok (.iload_n 1, 1) := by decide +kernel
theorem dX5_ofClass_47 : decode cX5_ofClass 47 = .ok (.invokevirtual 295, 3) := by decide +kernel
theorem dX5_ofClass_50 : decode cX5_ofClass 50 = .ok (.ireturn, 1) := by decide +kernel
theorem dX5_ofClass_51 : decode cX5_ofClass 51 = .ok (.iload_n 2, 1) := by decide +kernel
theorem dX5_ofClass_52 : decode cX5_ofClass 52 = .ok (.iconst 1, 1) := by decide +kernel
theorem dX5_ofClass_53 : decode cX5_ofClass 53 = .ok (.if_icmp .ne 12, 3) := by decide +kernel
theorem dX5_ofClass_56 : decode cX5_ofClass 56 = .ok (.aload_n 0, 1) := by decide +kernel
theorem dX5_ofClass_57 : decode cX5_ofClass 57 = .ok (.getfield 40, 3) := by decide +kernel
theorem dX5_ofClass_60 : decode cX5_ofClass 60 = .ok (.iload_n 1, 1) := by decide +kernel
theorem dX5_ofClass_61 : decode cX5_ofClass 61 = .ok (.invokevirtual 298, 3) := by decide +kernel
theorem dX5_ofClass_64 : decode cX5_ofClass 64 = .ok (.ireturn, 1) := by decide +kernel
theorem dX5_ofClass_65 : decode cX5_ofClass 65 = .ok (.iload_n 1, 1) := by decide +kernel
theorem dX5_ofClass_66 : decode cX5_ofClass 66 = .ok (.ifCond .ne 8, 3) := by decide +kernel
theorem dX5_ofClass_69 : decode cX5_ofClass 69 = .ok (.bipush (-5), 2) := by decide +kernel
theorem dX5_ofClass_71 : decode cX5_ofClass 71 = .ok (.goto 11, 3) := by decide +kernel
theorem dX5_ofClass_74 : decode cX5_ofClass 74 = .ok (.aload_n 0, 1) := by decide +kernel
theorem dX5_ofClass_75 : decode cX5_ofClass 75 = .ok (.getfield 40, 3) := by decide +kernel
theorem dX5_ofClass_78 : decode cX5_ofClass 78 = .ok (.iload_n 1, 1) := by decide +kernel
theorem dX5_ofClass_79 : decode cX5_ofClass 79 = .ok (.invokevirtual 301, 3) := by decide +kernel
theorem dX5_ofClass_82 : decode cX5_ofClass 82 = .ok (.ireturn, 1) := by decide +kernel
theorem dX5_classIf_0 : decode cX5_classIf 0 = .ok (.aload_n 0, 1) := by decide +kernel
theorem dX5_classIf_1 : decode cX5_classIf 1 = .ok (.getfield 12, 3) := by decide +kernel
theorem dX5_classIf_4 : decode cX5_classIf 4 = .ok (.iload_n 1, 1) := by decide +kernel
theorem dX5_classIf_5 : decode cX5_classIf 5 = .ok (.invokevirtual 164, 3) := by decide +kernel
theorem dX5_classIf_8 : decode cX5_classIf 8 = .ok (.ifCond .eq 14, 3) := by decide +kernel
theorem dX5_classIf_11 : decode cX5_classIf 11 = .ok (.aload_n 0, 1) := by decide +kernel
theorem dX5_classIf_12 : decode cX5_classIf 12 = .ok (.getfield 12, 3) := by decide +kernel
theorem dX5_classIf_15 : decode cX5_classIf 15 = .ok (.iload_n 2, 1) := by decide +kernel
theorem dX5_classIf_16 : decode cX5_classIf 16 = .ok (.invokevirtual 115, 3) := by decide +kernel
theorem dX5_classIf_19 : decode cX5_classIf 19 = .ok (.ifCond .ne 5, 3) := by decide +kernel
theorem dX5_classIf_22 : decode cX5_classIf 22 = .ok (.iconst (-1), 1) := by decide +kernel
theorem dX5_classIf_23 : decode cX5_classIf 23 = .ok (.ireturn, 1) := by decide +kernel
theorem dX5_classIf_24 : decode cX5_classIf 24 = .ok (.iload_n 3, 1) := by decide +kernel
theorem dX5_classIf_25 : decode cX5_classIf 25 = .ok (.iconst 0, 1) := by decide +kernel
theorem dX5_classIf_26 : decode cX5_classIf 26 = .ok (.bipush 100, 2) := by decide +kernel
theorem dX5_classIf_28 : decode cX5_classIf 28 = .ok (.invokestatic 80, 3) := by decide +kernel
theorem dX5_classIf_31 : decode cX5_classIf 31 = .ok (.ifCond .ne 6, 3) := by decide +kernel
theorem dX5_classIf_34 : decode cX5_classIf 34 = .ok (.bipush (-2), 2) := by decide +kernel
theorem dX5_classIf_36 : decode cX5_classIf 36 = .ok (.ireturn, 1) := by decide +kernel
theorem dX5_classIf_37 : decode cX5_classIf 37 = .ok (.aload_n 0, 1) := by decide +kernel
theorem dX5_classIf_38 : decode cX5_classIf 38 = .ok (.getfield 33, 3) := by decide +kernel
theorem dX5_classIf_41 : decode cX5_classIf 41 = .ok (.aload_n 0, 1) := by decide +kernel
theorem dX5_classIf_42 : decode cX5_classIf 42 = .ok (.getfield 12, 3) := by decide +kernel
theorem dX5_classIf_45 : decode cX5_classIf 45 = .ok (.iload_n 1, 1) := by decide +kernel
theorem dX5_classIf_46 : decode cX5_classIf 46 = .ok (.invokevirtual 129, 3) := by decide +kernel
theorem dX5_classIf_49 : decode cX5_classIf 49 = .ok (.aload_n 0, 1) := by decide +kernel
theorem dX5_classIf_50 : decode cX5_classIf 50 = .ok (.getfield 33, 3) := by decide +kernel
theorem dX5_classIf_53 : decode cX5_classIf 53 = .ok (.aload_n 0, 1) := by decide +kernel
theorem dX5_classIf_54 : decode cX5_classIf 54 = .ok (.getfield 12, 3) := by decide +kernel
theorem dX5_classIf_57 : decode cX5_classIf 57 = .ok (.iload_n 2, 1) := by decide +kernel
theorem dX5_classIf_58 : decode cX5_classIf 58 = .ok (.iload_n 3, 1) := by decide +kernel
theorem dX5_classIf_59 : decode cX5_classIf 59 = .ok (.invokevirtual 304, 3) := by decide +kernel
theorem dX5_classIf_62 : decode cX5_classIf 62 = .ok (.aload_n 0, 1) := by decide +kernel
theorem dX5_classIf_63 : decode cX5_classIf 63 = .ok (.getfield 33, 3) := by decide +kernel
theorem dX5_classIf_66 : decode cX5_classIf 66 = .ok (.getfield 257, 3) := by decide +kernel
theorem dX5_classIf_69 : decode cX5_classIf 69 = .ok (.ireturn, 1) := by decide +kernel
theorem dX5_needed_0 : decode cX5_needed 0 = .ok (.aload_n 0, 1) := by decide +kernel
theorem dX5_needed_1 : decode cX5_needed 1 = .ok (.getfield 12, 3) := by decide +kernel
theorem dX5_needed_4 : decode cX5_needed 4 = .ok (.iload_n 1, 1) := by decide +kernel
theorem dX5_needed_5 : decode cX5_needed 5 = .ok (.invokevirtual 164, 3) := by decide +kernel
theorem dX5_needed_8 : decode cX5_needed 8 = .ok (.ifCond .eq 14, 3) := by decide +kernel
theorem dX5_needed_11 : decode cX5_needed 11 = .ok (.aload_n 0, 1) := by decide +kernel
theorem dX5_needed_12 : decode cX5_needed 12 = .ok (.getfield 12, 3) := by decide +kernel
theorem dX5_needed_15 : decode cX5_needed 15 = .ok (.iload_n 2, 1) := by decide +kernel
theorem dX5_needed_16 : decode cX5_needed 16 = .ok (.invokevirtual 115, 3) := by decide +kernel
theorem dX5_needed_19 : decode cX5_needed 19 = .ok (.ifCond .ne 5, 3) := by decide +kernel
theorem dX5_needed_22 : decode cX5_needed 22 = .ok (.iconst (-1), 1) := by decide +kernel
theorem dX5_needed_23 : decode cX5_needed 23 = .ok (.ireturn, 1) := by decide +kernel
theorem dX5_needed_24 : decode cX5_needed 24 = .ok (.aload_n 0, 1) := by decide +kernel
theorem dX5_needed_25 : decode cX5_needed 25 = .ok (.getfield 33, 3) := by decide +kernel
theorem dX5_needed_28 : decode cX5_needed 28 = .ok (.aload_n 0, 1) := by decide +kernel
theorem dX5_needed_29 : decode cX5_needed 29 = .ok (.getfield 12, 3) := by decide +kernel
theorem dX5_needed_32 : decode cX5_needed 32 = .ok (.iload_n 1, 1) := by decide +kernel
theorem dX5_needed_33 : decode cX5_needed 33 = .ok (.invokevirtual 129, 3) := by decide +kernel
theorem dX5_needed_36 : decode cX5_needed 36 = .ok (.aload_n 0, 1) := by decide +kernel
theorem dX5_needed_37 : decode cX5_needed 37 = .ok (.getfield 33, 3) := by decide +kernel
theorem dX5_needed_40 : decode cX5_needed 40 = .ok (.getfield 257, 3) := by decide +kernel
theorem dX5_needed_43 : decode cX5_needed 43 = .ok (.invokestatic 308, 3) := by decide +kernel
theorem dX5_needed_46 : decode cX5_needed 46 = .ok (.istore_n 3, 1) := by decide +kernel
theorem dX5_needed_47 : decode cX5_needed 47 = .ok (.iconst 0, 1) := by decide +kernel
theorem dX5_needed_48 : decode cX5_needed 48 = .ok (.istore 4, 2) := by decide +kernel
theorem dX5_needed_50 : decode cX5_needed 50 = .ok (.iload 4, 2) := by decide +kernel
theorem dX5_needed_52 : decode cX5_needed 52 = .ok (.bipush 100, 2) := by decide +kernel
theorem dX5_needed_54 : decode cX5_needed 54 = .ok (.if_icmp .gt 56, 3) := by decide +kernel
theorem dX5_needed_57 : decode cX5_needed 57 = .ok (.aload_n 0, 1) := by decide +kernel
theorem dX5_needed_58 : decode cX5_needed 58 = .ok (.getfield 33, 3) := by decide +kernel
theorem dX5_needed_61 : decode cX5_needed 61 = .ok (.aload_n 0, 1) := by decide +kernel
theorem dX5_needed_62 : decode cX5_needed 62 = .ok (.getfield 12, 3) := by decide +kernel
theorem dX5_needed_65 : decode cX5_needed 65 = .ok (.iload_n 2, 1) := by decide +kernel
theorem dX5_needed_66 : decode cX5_needed 66 = .ok (.iload 4, 2) := by decide +kernel
theorem dX5_needed_68 : decode cX5_needed 68 = .ok (.invokevirtual 304, 3) := by decide +kernel
theorem dX5_needed_71 : decode cX5_needed 71 = .ok (.aload_n 0, 1) := by decide +kernel
theorem dX5_needed_72 : decode cX5_needed 72 = .ok (.getfield 33, 3) := by decide +kernel
theorem dX5_needed_75 : decode cX5_needed 75 = .ok (.getfield 257, 3) := by decide +kernel
theorem dX5_needed_78 : decode cX5_needed 78 = .ok (.iconst 1, 1) := by decide +kernel
theorem dX5_needed_79 : decode cX5_needed 79 = .ok (.iconst 4, 1) := by decide +kernel
theorem dX5_needed_80 : decode cX5_needed 80 = .ok (.invokestatic 80, 3) := by decide +kernel
theorem dX5_needed_83 : decode cX5_needed 83 = .ok (.istore 5, 2) := by decide +kernel
theorem dX5_needed_85 : decode cX5_needed 85 = .ok (.iload 5, 2) := by decide +kernel
theorem dX5_needed_87 : decode cX5_needed 87 = .ok (.ifCond .eq 17, 3) := by decide +kernel
theorem dX5_needed_90 : decode cX5_needed 90 = .ok (.aload_n 0, 1) := by decide +kernel
theorem dX5_needed_91 : decode cX5_needed 91 = .ok (.getfield 33, 3) := by decide +kernel
theorem dX5_needed_94 : decode cX5_needed 94 = .ok (.getfield 257, 3) := by decide +kernel
theorem dX5_needed_97 : decode cX5_needed 97 = .ok (.iload_n 3, 1) := by decide +kernel
theorem dX5_needed_98 : decode cX5_needed 98 = .ok (.if_icmp .ge 6, 3) := by decide +kernel
theorem dX5_needed_101 : decode cX5_needed 101 = .ok (.iload 4, 2) := by decide +kernel
theorem dX5_needed_103 : decode cX5_needed 103 = .ok (.ireturn, 1) := by decide +kernel
theorem dX5_needed_104 : decode cX5_needed 104 = .ok (.iinc 4 1, 3) := by decide +kernel
theorem dX5_needed_107 : decode cX5_needed 107 = .ok (.goto (-57), 3) := by decide +kernel
theorem dX5_needed_110 : decode cX5_needed 110 = .ok (.bipush (-5), 2) := by decide +kernel
theorem dX5_needed_112 : decode cX5_needed 112 = .ok (.ireturn, 1) := by decide +kernel
theorem dX5_changedIf_0 : decode cX5_changedIf 0 = .ok (.iload_n 1, 1) := by decide +kernel
theorem dX5_changedIf_1 : decode cX5_changedIf 1 = .ok (.iload_n 2, 1) := by decide +kernel
theorem dX5_changedIf_2 : decode cX5_changedIf 2 = .ok (.invokestatic 68, 3) := by decide +kernel
theorem dX5_changedIf_5 : decode cX5_changedIf 5 = .ok (.ifCond .ne 6, 3) := by decide +kernel
theorem dX5_changedIf_8 : decode cX5_changedIf 8 = .ok (.bipush (-2), 2) := by decide +kernel
theorem dX5_changedIf_10 : decode cX5_changedIf 10 = .ok (.ireturn, 1) := by decide +kernel
theorem dX5_changedIf_11 : decode cX5_changedIf 11 = .ok (.aload_n 0, 1) := by decide +kernel
theorem dX5_changedIf_12 : decode cX5_changedIf 12 = .ok (.getfield 40, 3) := by decide +kernel
theorem dX5_changedIf_15 : decode cX5_changedIf 15 = .ok (.aload_n 0, 1) := by decide +kernel
theorem dX5_changedIf_16 : decode cX5_changedIf 16 = .ok (.getfield 12, 3) := by decide +kernel
theorem dX5_changedIf_19 : decode cX5_changedIf 19 = .ok (.aload_n 0, 1) := by decide +kernel
theorem dX5_changedIf_20 : decode cX5_changedIf 20 = .ok (.getfield 33, 3) := by decide +kernel
theorem dX5_changedIf_23 : decode cX5_changedIf 23 = .ok (.invokevirtual 266, 3) := by decide +kernel
theorem dX5_changedIf_26 : decode cX5_changedIf 26 = .ok (.aload_n 0, 1) := by decide +kernel
theorem dX5_changedIf_27 : decode cX5_changedIf 27 = .ok (.getfield 12, 3) := by decide +kernel
theorem dX5_changedIf_30 : decode cX5_changedIf 30 = .ok (.getfield 72, 3) := by decide +kernel
theorem dX5_changedIf_33 : decode cX5_changedIf 33 = .ok (.iload_n 1, 1) := by decide +kernel
theorem dX5_changedIf_34 : decode cX5_changedIf 34 = .ok (.iaload, 1) := by decide +kernel
theorem dX5_changedIf_35 : decode cX5_changedIf 35 = .ok (.istore_n 3, 1) := by decide +kernel
theorem dX5_changedIf_36 : decode cX5_changedIf 36 = .ok (.aload_n 0, 1) := by decide +kernel
theorem dX5_changedIf_37 : decode cX5_changedIf 37 = .ok (.getfield 12, 3) := by decide +kernel
theorem dX5_changedIf_40 : decode cX5_changedIf 40 = .ok (.getfield 72, 3) := by decide +kernel
theorem dX5_changedIf_43 : decode cX5_changedIf 43 = .ok (.iload_n 1, 1) := by decide +kernel
theorem dX5_changedIf_44 : decode cX5_changedIf 44 = .ok (.iload_n 2, 1) := by decide +kernel
theorem dX5_changedIf_45 : decode cX5_changedIf 45 = .ok (.iastore, 1) := by decide +kernel
theorem dX5_changedIf_46 : decode cX5_changedIf 46 = .ok (.iconst 0, 1) := by decide +kernel
theorem dX5_changedIf_47 : decode cX5_changedIf 47 = .ok (.istore 4, 2) := by decide +kernel
theorem dX5_changedIf_49 : decode cX5_changedIf 49 = .ok (.iconst 0, 1) := by decide +kernel
theorem dX5_changedIf_50 : decode cX5_changedIf 50 = .ok (.istore 5, 2) := by decide +kernel
theorem dX5_changedIf_52 : decode cX5_changedIf 52 = .ok (.iload 5, 2) := by decide +kernel
theorem dX5_changedIf_54 : decode cX5_changedIf 54 = .ok (.aload_n 0, 1) := by decide +kernel
theorem dX5_changedIf_55 : decode cX5_changedIf 55 = .ok (.getfield 12, 3) := by decide +kernel
theorem dX5_changedIf_58 : decode cX5_changedIf 58 = .ok (.getfield 109, 3) := by decide +kernel
theorem dX5_changedIf_61 : decode cX5_changedIf 61 = .ok (.if_icmp .ge 45, 3) := by decide +kernel
theorem dX5_changedIf_64 : decode cX5_changedIf 64 = .ok (.aload_n 0, 1) := by decide +kernel
theorem dX5_changedIf_65 : decode cX5_changedIf 65 = .ok (.getfield 33, 3) := by decide +kernel
theorem dX5_changedIf_68 : decode cX5_changedIf 68 = .ok (.aload_n 0, 1) := by decide +kernel
theorem dX5_changedIf_69 : decode cX5_changedIf 69 = .ok (.getfield 12, 3) := by decide +kernel
theorem dX5_changedIf_72 : decode cX5_changedIf 72 = .ok (.iload 5, 2) := by decide +kernel
theorem dX5_changedIf_74 : decode cX5_changedIf 74 = .ok (.invokevirtual 129, 3) := by decide +kernel
theorem dX5_changedIf_77 : decode cX5_changedIf 77 = .ok (.aload_n 0, 1) := by decide +kernel
theorem dX5_changedIf_78 : decode cX5_changedIf 78 = .ok (.getfield 33, 3) := by decide +kernel
theorem dX5_changedIf_81 : decode cX5_changedIf 81 = .ok (.getfield 257, 3) := by decide +kernel
theorem dX5_changedIf_84 : decode cX5_changedIf 84 = .ok (.aload_n 0, 1) := by decide +kernel
theorem dX5_changedIf_85 : decode cX5_changedIf 85 = .ok (.getfield 40, 3) := by decide +kernel
theorem dX5_changedIf_88 : decode cX5_changedIf 88 = .ok (.getfield 311, 3) := by decide +kernel
theorem dX5_changedIf_91 : decode cX5_changedIf 91 = .ok (.iload 5, 2) := by decide +kernel
theorem dX5_changedIf_93 : decode cX5_changedIf 93 = .ok (.iaload, 1) := by decide +kernel
theorem dX5_changedIf_94 : decode cX5_changedIf 94 = .ok (.if_icmp .eq 6, 3) := by decide +kernel
theorem dX5_changedIf_97 : decode cX5_changedIf 97 = .ok (.iinc 4 1, 3) := by decide +kernel
theorem dX5_changedIf_100 : decode cX5_changedIf 100 = .ok (.iinc 5 1, 3) := by decide +kernel
theorem dX5_changedIf_103 : decode cX5_changedIf 103 = .ok (.goto (-51), 3) := by decide +kernel
theorem dX5_changedIf_106 : decode cX5_changedIf 106 = .ok (.aload_n 0, 1) := by decide +kernel
theorem dX5_changedIf_107 : decode cX5_changedIf 107 = .ok (.getfield 12, 3) := by decide +kernel
theorem dX5_changedIf_110 : decode cX5_changedIf 110 = .ok (.getfield 72, 3) := by decide +kernel
theorem dX5_changedIf_113 : decode cX5_changedIf 113 = .ok (.iload_n 1, 1) := by decide +kernel
theorem dX5_changedIf_114 : decode cX5_changedIf 114 = .ok (.iload_n 3, 1) := by decide +kernel
theorem dX5_changedIf_115 : decode cX5_changedIf 115 = .ok (.iastore, 1) := by decide +kernel
theorem dX5_changedIf_116 : decode cX5_changedIf 116 = .ok (.iload 4, 2) := by decide +kernel
theorem dX5_changedIf_118 : decode cX5_changedIf 118 = .ok (.ireturn, 1) := by decide +kernel
theorem dX5_append_0 : decode cX5_append 0 = .ok (.iload_n 1, 1) := by decide +kernel
theorem dX5_append_1 : decode cX5_append 1 = .ok (.bipush 32, 2) := by decide +kernel
theorem dX5_append_3 : decode cX5_append 3 = .ok (.bipush 126, 2) := by decide +kernel
theorem dX5_append_5 : decode cX5_append 5 = .ok (.invokestatic 80, 3) := by decide +kernel
theorem dX5_append_8 : decode cX5_append 8 = .ok (.ifCond .ne 6, 3) := by decide +kernel
theorem dX5_append_11 : decode cX5_append 11 = .ok (.bipush (-2), 2) := by decide +kernel
theorem dX5_append_13 : decode cX5_append 13 = .ok (.ireturn, 1) := by decide +kernel
theorem dX5_append_14 : decode cX5_append 14 = .ok (.aload_n 0, 1) := by decide +kernel
theorem dX5_append_15 : decode cX5_append 15 = .ok (.getfield 47, 3) := by decide +kernel
theorem dX5_append_18 : decode cX5_append 18 = .ok (.getfield 314, 3) := by decide +kernel
theorem dX5_append_21 : decode cX5_append 21 = .ok (.invokevirtual 317, 3) := by decide +kernel
theorem dX5_append_24 : decode cX5_append 24 = .ok (.bipush 80, 2) := by decide +kernel
theorem dX5_append_26 : decode cX5_append 26 = .ok (.if_icmp .lt 6, 3) := by decide +kernel
theorem dX5_append_29 : decode cX5_append 29 = .ok (.bipush (-3), 2) := by decide +kernel
theorem dX5_append_31 : decode cX5_append 31 = .ok (.ireturn, 1) := by decide +kernel
theorem dX5_append_32 : decode cX5_append 32 = .ok (.aload_n 0, 1) := by decide +kernel
theorem dX5_append_33 : decode cX5_append 33 = .ok (.getfield 47, 3) := by decide +kernel
theorem dX5_append_36 : decode cX5_append 36 = .ok (.getfield 314, 3) := by decide +kernel
theorem dX5_append_39 : decode cX5_append 39 = .ok (.iload_n 1, 1) := by decide +kernel
theorem dX5_append_40 : decode cX5_append 40 = .ok (.i2c, 1) := by decide +kernel
theorem dX5_append_41 : decode cX5_append 41 = .ok (.invokevirtual 320, 3) := by decide +kernel
theorem dX5_append_44 : decode cX5_append 44 = .ok (.pop, 1) := by decide +kernel
theorem dX5_append_45 : decode cX5_append 45 = .ok (.aload_n 0, 1) := by decide +kernel
theorem dX5_append_46 : decode cX5_append 46 = .ok (.getfield 47, 3) := by decide +kernel
theorem dX5_append_49 : decode cX5_append 49 = .ok (.getfield 314, 3) := by decide +kernel
theorem dX5_append_52 : decode cX5_append 52 = .ok (.invokevirtual 317, 3) := by decide +kernel
theorem dX5_append_55 : decode cX5_append 55 = .ok (.ireturn, 1) := by decide +kernel
theorem dX5_read_0 : decode cX5_read 0 = .ok (.aload_n 0, 1) := by decide +kernel
theorem dX5_read_1 : decode cX5_read 1 = .ok (.getfield 47, 3) := by decide +kernel
theorem dX5_read_4 : decode cX5_read 4 = .ok (.invokevirtual 324, 3) := by decide +kernel
theorem dX5_read_7 : decode cX5_read 7 = .ok (.istore_n 1, 1) := by decide +kernel
theorem dX5_read_8 : decode cX5_read 8 = .ok (.aload_n 0, 1) := by decide +kernel
theorem dX5_read_9 : decode cX5_read 9 = .ok (.getfield 47, 3) := by decide +kernel
theorem dX5_read_12 : decode cX5_read 12 = .ok (.getfield 314, 3) := by decide +kernel
theorem dX5_read_15 : decode cX5_read 15 = .ok (.iconst 0, 1) := by decide +kernel
theorem dX5_read_16 : decode cX5_read 16 = .ok (.invokevirtual 327, 3) := by decide +kernel
theorem dX5_read_19 : decode cX5_read 19 = .ok (.iload_n 1, 1) := by decide +kernel
theorem dX5_read_20 : decode cX5_read 20 = .ok (.iconst (-1), 1) := by decide +kernel
theorem dX5_read_21 : decode cX5_read 21 = .ok (.if_icmp .eq 9, 3) := by decide +kernel
theorem dX5_read_24 : decode cX5_read 24 = .ok (.sipush (-1000), 3) := by decide +kernel
theorem dX5_read_27 : decode cX5_read 27 = .ok (.iload_n 1, 1) := by decide +kernel
theorem dX5_read_28 : decode cX5_read 28 = .ok (.isub, 1) := by decide +kernel
theorem dX5_read_29 : decode cX5_read 29 = .ok (.ireturn, 1) := by decide +kernel
theorem dX5_read_30 : decode cX5_read 30 = .ok (.aload_n 0, 1) := by decide +kernel
theorem dX5_read_31 : decode cX5_read 31 = .ok (.getfield 26, 3) := by decide +kernel
theorem dX5_read_34 : decode cX5_read 34 = .ok (.aload_n 0, 1) := by decide +kernel
theorem dX5_read_35 : decode cX5_read 35 = .ok (.getfield 12, 3) := by decide +kernel
theorem dX5_read_38 : decode cX5_read 38 = .ok (.invokevirtual 331, 3) := by decide +kernel
theorem dX5_read_41 : decode cX5_read 41 = .ok (.iconst 0, 1) := by decide +kernel
theorem dX5_read_42 : decode cX5_read 42 = .ok (.istore_n 2, 1) := by decide +kernel
theorem dX5_read_43 : decode cX5_read 43 = .ok (.iload_n 2, 1) := by decide +kernel
theorem dX5_read_44 : decode cX5_read 44 = .ok (.aload_n 0, 1) := by decide +kernel
theorem dX5_read_45 : decode cX5_read 45 = .ok (.getfield 47, 3) := by decide +kernel
theorem dX5_read_48 : decode cX5_read 48 = .ok (.getfield 334, 3) := by decide +kernel
theorem dX5_read_51 : decode cX5_read 51 = .ok (.if_icmp .ge 95, 3) := by decide +kernel
theorem dX5_read_54 : decode cX5_read 54 = .ok (.aload_n 0, 1) := by decide +kernel
theorem dX5_read_55 : decode cX5_read 55 = .ok (.getfield 47, 3) := by decide +kernel
theorem dX5_read_58 : decode cX5_read 58 = .ok (.getfield 337, 3) := by decide +kernel
theorem dX5_read_61 : decode cX5_read 61 = .ok (.iload_n 2, 1) := by decide +kernel
theorem dX5_read_62 : decode cX5_read 62 = .ok (.caload, 1) := by decide +kernel
theorem dX5_read_63 : decode cX5_read 63 = .ok (.istore_n 3, 1) := by decide +kernel
theorem dX5_read_64 : decode cX5_read 64 = .ok (.aload_n 0, 1) := by decide +kernel
theorem dX5_read_65 : decode cX5_read 65 = .ok (.getfield 47, 3) := by decide +kernel
theorem dX5_read_68 : decode cX5_read 68 = .ok (.getfield 341, 3) := by decide +kernel
theorem dX5_read_71 : decode cX5_read 71 = .ok (.iload_n 2, 1) := by decide +kernel
theorem dX5_read_72 : decode cX5_read 72 = .ok (.iaload, 1) := by decide +kernel
theorem dX5_read_73 : decode cX5_read 73 = .ok (.istore 4, 2) := by decide +kernel
theorem dX5_read_75 : decode cX5_read 75 = .ok (.aload_n 0, 1) := by decide +kernel
theorem dX5_read_76 : decode cX5_read 76 = .ok (.getfield 47, 3) := by decide +kernel
theorem dX5_read_79 : decode cX5_read 79 = .ok (.getfield 343, 3) := by decide +kernel
theorem dX5_read_82 : decode cX5_read 82 = .ok (.iload_n 2, 1) := by decide +kernel
theorem dX5_read_83 : decode cX5_read 83 = .ok (.iaload, 1) := by decide +kernel
theorem dX5_read_84 : decode cX5_read 84 = .ok (.istore 5, 2) := by decide +kernel
theorem dX5_read_86 : decode cX5_read 86 = .ok (.aload_n 0, 1) := by decide +kernel
theorem dX5_read_87 : decode cX5_read 87 = .ok (.getfield 47, 3) := by decide +kernel
theorem dX5_read_90 : decode cX5_read 90 = .ok (.getfield 345, 3) := by decide +kernel
theorem dX5_read_93 : decode cX5_read 93 = .ok (.iload_n 2, 1) := by decide +kernel
theorem dX5_read_94 : decode cX5_read 94 = .ok (.iaload, 1) := by decide +kernel
theorem dX5_read_95 : decode cX5_read 95 = .ok (.istore 6, 2) := by decide +kernel
theorem dX5_read_97 : decode cX5_read 97 = .ok (.aload_n 0, 1) := by decide +kernel
theorem dX5_read_98 : decode cX5_read 98 = .ok (.iload_n 3, 1) := by decide +kernel
theorem dX5_read_99 : decode cX5_read 99 = .ok (.iload 4, 2) := by decide +kernel
theorem dX5_read_101 : decode cX5_read 101 = .ok (.iload 5, 2) := by decide +kernel
theorem dX5_read_103 : decode cX5_read 103 = .ok (.iload 6, 2) := by decide +kernel
theorem dX5_read_105 : decode cX5_read 105 = .ok (.iload_n 2, 1) := by decide +kernel
theorem dX5_read_106 : decode cX5_read 106 = .ok (.invokevirtual 136, 3) := by decide +kernel
theorem dX5_read_109 : decode cX5_read 109 = .ok (.ifCond .eq 17, 3) := by decide +kernel
theorem dX5_read_112 : decode cX5_read 112 = .ok (.aload_n 0, 1) := by decide +kernel
theorem dX5_read_113 : decode cX5_read 113 = .ok (.getfield 26, 3) := by decide +kernel
theorem dX5_read_116 : decode cX5_read 116 = .ok (.aload_n 0, 1) := by decide +kernel
theorem dX5_read_117 : decode cX5_read 117 = .ok (.getfield 12, 3) := by decide +kernel
theorem dX5_read_120 : decode cX5_read 120 = .ok (.invokevirtual 348, 3) := by decide +kernel
theorem dX5_read_123 : decode cX5_read 123 = .ok (.bipush (-4), 2) := by decide +kernel
theorem dX5_read_125 : decode cX5_read 125 = .ok (.ireturn, 1) := by decide +kernel
theorem dX5_read_126 : decode cX5_read 126 = .ok (.aload_n 0, 1) := by decide +kernel
theorem dX5_read_127 : decode cX5_read 127 = .ok (.getfield 12, 3) := by decide +kernel
theorem dX5_read_130 : decode cX5_read 130 = .ok (.iload_n 3, 1) := by decide +kernel
theorem dX5_read_131 : decode cX5_read 131 = .ok (.iload 4, 2) := by decide +kernel
theorem dX5_read_133 : decode cX5_read 133 = .ok (.iload 5, 2) := by decide +kernel
theorem dX5_read_135 : decode cX5_read 135 = .ok (.iload 6, 2) := by decide +kernel
theorem dX5_read_137 : decode cX5_read 137 = .ok (.invokevirtual 140, 3) := by decide +kernel
theorem dX5_read_140 : decode cX5_read 140 = .ok (.iinc 2 1, 3) := by decide +kernel
theorem dX5_read_143 : decode cX5_read 143 = .ok (.goto (-100), 3) := by decide +kernel
theorem dX5_read_146 : decode cX5_read 146 = .ok (.aload_n 0, 1) := by decide +kernel
theorem dX5_read_147 : decode cX5_read 147 = .ok (.getfield 26, 3) := by decide +kernel
theorem dX5_read_150 : decode cX5_read 150 = .ok (.invokevirtual 351, 3) := by decide +kernel
theorem dX5_read_153 : decode cX5_read 153 = .ok (.aload_n 0, 1) := by decide +kernel
theorem dX5_read_154 : decode cX5_read 154 = .ok (.getfield 47, 3) := by decide +kernel
theorem dX5_read_157 : decode cX5_read 157 = .ok (.getfield 334, 3) := by decide +kernel
theorem dX5_read_160 : decode cX5_read 160 = .ok (.ireturn, 1) := by decide +kernel
theorem dX5_refusal_0 : decode cX5_refusal 0 = .ok (.iload_n 1, 1) := by decide +kernel
theorem dX5_refusal_1 : decode cX5_refusal 1 = .ok (.iconst 0, 1) := by decide +kernel
theorem dX5_refusal_2 : decode cX5_refusal 2 = .ok (.iconst 2, 1) := by decide +kernel
theorem dX5_refusal_3 : decode cX5_refusal 3 = .ok (.invokestatic 80, 3) := by decide +kernel
theorem dX5_refusal_6 : decode cX5_refusal 6 = .ok (.ifCond .ne 6, 3) := by decide +kernel
theorem dX5_refusal_9 : decode cX5_refusal 9 = .ok (.bipush (-2), 2) := by decide +kernel
theorem dX5_refusal_11 : decode cX5_refusal 11 = .ok (.ireturn, 1) := by decide +kernel
theorem dX5_refusal_12 : decode cX5_refusal 12 = .ok (.aload_n 0, 1) := by decide +kernel
theorem dX5_refusal_13 : decode cX5_refusal 13 = .ok (.getfield 58, 3) := by decide +kernel
theorem dX5_refusal_16 : decode cX5_refusal 16 = .ok (.ifCond .ne 6, 3) := by decide +kernel
theorem dX5_refusal_19 : decode cX5_refusal 19 = .ok (.bipush (-5), 2) := by decide +kernel
theorem dX5_refusal_21 : decode cX5_refusal 21 = .ok (.ireturn, 1) := by decide +kernel
theorem dX5_refusal_22 : decode cX5_refusal 22 = .ok (.iload_n 1, 1) := by decide +kernel
theorem dX5_refusal_23 : decode cX5_refusal 23 = .ok (.ifCond .ne 8, 3) := by decide +kernel
theorem dX5_refusal_26 : decode cX5_refusal 26 = .ok (.aload_n 0, 1) := by decide +kernel
theorem dX5_refusal_27 : decode cX5_refusal 27 = .ok (.getfield 58, 3) := by decide +kernel
theorem dX5_refusal_30 : decode cX5_refusal 30 = .ok (.ireturn, 1) := by decide +kernel
theorem dX5_refusal_31 : decode cX5_refusal 31 = .ok (.iload_n 1, 1) := by decide +kernel
theorem dX5_refusal_32 : decode cX5_refusal 32 = .ok (.iconst 1, 1) := by decide +kernel
theorem dX5_refusal_33 : decode cX5_refusal 33 = .ok (.if_icmp .ne 10, 3) := by decide +kernel
theorem dX5_refusal_36 : decode cX5_refusal 36 = .ok (.aload_n 0, 1) := by decide +kernel
theorem dX5_refusal_37 : decode cX5_refusal 37 = .ok (.getfield 62, 3) := by decide +kernel
theorem dX5_refusal_40 : decode cX5_refusal 40 = .ok (.goto 7, 3) := by decide +kernel
theorem dX5_refusal_43 : decode cX5_refusal 43 = .ok (.aload_n 0, 1) := by decide +kernel
theorem dX5_refusal_44 : decode cX5_refusal 44 = .ok (.getfield 65, 3) := by decide +kernel
theorem dX5_refusal_47 : decode cX5_refusal 47 = .ok (.ireturn, 1) := by decide +kernel
theorem dX5_write_0 : decode cX5_write 0 = .ok (.aload_n 0, 1) := by decide +kernel
theorem dX5_write_1 : decode cX5_write 1 = .ok (.getfield 12, 3) := by decide +kernel
theorem dX5_write_4 : decode cX5_write 4 = .ok (.iload_n 1, 1) := by decide +kernel
theorem dX5_write_5 : decode cX5_write 5 = .ok (.invokevirtual 164, 3) := by decide +kernel
theorem dX5_write_8 : decode cX5_write 8 = .ok (.ifCond .ne 5, 3) := by decide +kernel
theorem dX5_write_11 : decode cX5_write 11 = .ok (.iconst (-1), 1) := by decide +kernel
theorem dX5_write_12 : decode cX5_write 12 = .ok (.ireturn, 1) := by decide +kernel
theorem dX5_write_13 : decode cX5_write 13 = .ok (.aload_n 0, 1) := by decide +kernel
theorem dX5_write_14 : decode cX5_write 14 = .ok (.getfield 33, 3) := by decide +kernel
theorem dX5_write_17 : decode cX5_write 17 = .ok (.aload_n 0, 1) := by decide +kernel
theorem dX5_write_18 : decode cX5_write 18 = .ok (.getfield 12, 3) := by decide +kernel
theorem dX5_write_21 : decode cX5_write 21 = .ok (.iload_n 1, 1) := by decide +kernel
theorem dX5_write_22 : decode cX5_write 22 = .ok (.invokevirtual 129, 3) := by decide +kernel
theorem dX5_write_25 : decode cX5_write 25 = .ok (.aload_n 0, 1) := by decide +kernel
theorem dX5_write_26 : decode cX5_write 26 = .ok (.getfield 54, 3) := by decide +kernel
theorem dX5_write_29 : decode cX5_write 29 = .ok (.iconst 0, 1) := by decide +kernel
theorem dX5_write_30 : decode cX5_write 30 = .ok (.invokevirtual 327, 3) := by decide +kernel
theorem dX5_write_33 : decode cX5_write 33 = .ok (.iconst 0, 1) := by decide +kernel
theorem dX5_write_34 : decode cX5_write 34 = .ok (.istore_n 2, 1) := by decide +kernel
theorem dX5_write_35 : decode cX5_write 35 = .ok (.iload_n 2, 1) := by decide +kernel
theorem dX5_write_36 : decode cX5_write 36 = .ok (.aload_n 0, 1) := by decide +kernel
theorem dX5_write_37 : decode cX5_write 37 = .ok (.getfield 12, 3) := by decide +kernel
theorem dX5_write_40 : decode cX5_write 40 = .ok (.getfield 94, 3) := by decide +kernel
theorem dX5_write_43 : decode cX5_write 43 = .ok (.if_icmp .ge 27, 3) := by decide +kernel
theorem dX5_write_46 : decode cX5_write 46 = .ok (.aload_n 0, 1) := by decide +kernel
theorem dX5_write_47 : decode cX5_write 47 = .ok (.getfield 12, 3) := by decide +kernel
theorem dX5_write_50 : decode cX5_write 50 = .ok (.iload_n 1, 1) := by decide +kernel
theorem dX5_write_51 : decode cX5_write 51 = .ok (.iload_n 2, 1) := by decide +kernel
theorem dX5_write_52 : decode cX5_write 52 = .ok (.invokevirtual 167, 3) := by decide +kernel
theorem dX5_write_55 : decode cX5_write 55 = .ok (.ifCond .eq 9, 3) := by decide +kernel
theorem dX5_write_58 : decode cX5_write 58 = .ok (.aload_n 0, 1) := by decide +kernel
theorem dX5_write_59 : decode cX5_write 59 = .ok (.iload_n 1, 1) := by decide +kernel
theorem dX5_write_60 : decode cX5_write 60 = .ok (.iload_n 2, 1) := by decide +kernel
theorem dX5_write_61 : decode cX5_write 61 = .ok (.invokevirtual 354, 3) := by decide +kernel
theorem dX5_write_64 : decode cX5_write 64 = .ok (.iinc 2 1, 3) := by decide +kernel
theorem dX5_write_67 : decode cX5_write 67 = .ok (.goto (-32), 3) := by decide +kernel
theorem dX5_write_70 : decode cX5_write 70 = .ok (.aload_n 0, 1) := by decide +kernel
theorem dX5_write_71 : decode cX5_write 71 = .ok (.getfield 54, 3) := by decide +kernel
theorem dX5_write_74 : decode cX5_write 74 = .ok (.invokevirtual 317, 3) := by decide +kernel
theorem dX5_write_77 : decode cX5_write 77 = .ok (.ireturn, 1) := by decide +kernel
theorem dX5_writePaper_0 : decode cX5_writePaper 0 = .ok (.aload_n 0, 1) := by decide +kernel
theorem dX5_writePaper_1 : decode cX5_writePaper 1 = .ok (.getfield 54, 3) := by decide +kernel
theorem dX5_writePaper_4 : decode cX5_writePaper 4 = .ok (.invokevirtual 317, 3) := by decide +kernel
theorem dX5_writePaper_7 : decode cX5_writePaper 7 = .ok (.ifCond .le 13, 3) := by decide +kernel
theorem dX5_writePaper_10 : decode cX5_writePaper 10 = .ok (.aload_n 0, 1) := by decide +kernel
theorem dX5_writePaper_11 : decode cX5_writePaper 11 = .ok (.getfield 54, 3) := by decide +kernel
theorem dX5_writePaper_14 : decode cX5_writePaper 14 = .ok (.bipush 59, 2) := by decide +kernel
theorem dX5_writePaper_16 : decode cX5_writePaper 16 = .ok (.invokevirtual 320, 3) := by decide +kernel
theorem dX5_writePaper_19 : decode cX5_writePaper 19 = .ok (.pop, 1) := by decide +kernel
theorem dX5_writePaper_20 : decode cX5_writePaper 20 = .ok (.aload_n 0, 1) := by decide +kernel
theorem dX5_writePaper_21 : decode cX5_writePaper 21 = .ok (.getfield 54, 3) := by decide +kernel
theorem dX5_writePaper_24 : decode cX5_writePaper 24 = .ok (.iload_n 2, 1) := by decide +kernel
theorem dX5_writePaper_25 : decode cX5_writePaper 25 = .ok (.invokevirtual 358, 3) := by decide +kernel
theorem dX5_writePaper_28 : decode cX5_writePaper 28 = .ok (.pop, 1) := by decide +kernel
theorem dX5_writePaper_29 : decode cX5_writePaper 29 = .ok (.aload_n 0, 1) := by decide +kernel
theorem dX5_writePaper_30 : decode cX5_writePaper 30 = .ok (.getfield 54, 3) := by decide +kernel
theorem dX5_writePaper_33 : decode cX5_writePaper 33 = .ok (.bipush 58, 2) := by decide +kernel
theorem dX5_writePaper_35 : decode cX5_writePaper 35 = .ok (.invokevirtual 320, 3) := by decide +kernel
theorem dX5_writePaper_38 : decode cX5_writePaper 38 = .ok (.pop, 1) := by decide +kernel
theorem dX5_writePaper_39 : decode cX5_writePaper 39 = .ok (.aload_n 0, 1) := by decide +kernel
theorem dX5_writePaper_40 : decode cX5_writePaper 40 = .ok (.getfield 54, 3) := by decide +kernel
theorem dX5_writePaper_43 : decode cX5_writePaper 43 = .ok (.aload_n 0, 1) := by decide +kernel
theorem dX5_writePaper_44 : decode cX5_writePaper 44 = .ok (.getfield 33, 3) := by decide +kernel
theorem dX5_writePaper_47 : decode cX5_writePaper 47 = .ok (.getfield 361, 3) := by decide +kernel
theorem dX5_writePaper_50 : decode cX5_writePaper 50 = .ok (.iload_n 2, 1) := by decide +kernel
theorem dX5_writePaper_51 : decode cX5_writePaper 51 = .ok (.iaload, 1) := by decide +kernel
theorem dX5_writePaper_52 : decode cX5_writePaper 52 = .ok (.invokevirtual 358, 3) := by decide +kernel
theorem dX5_writePaper_55 : decode cX5_writePaper 55 = .ok (.pop, 1) := by decide +kernel
theorem dX5_writePaper_56 : decode cX5_writePaper 56 = .ok (.aload_n 0, 1) := by decide +kernel
theorem dX5_writePaper_57 : decode cX5_writePaper 57 = .ok (.getfield 33, 3) := by decide +kernel
theorem dX5_writePaper_60 : decode cX5_writePaper 60 = .ok (.getfield 361, 3) := by decide +kernel
theorem dX5_writePaper_63 : decode cX5_writePaper 63 = .ok (.iload_n 2, 1) := by decide +kernel
theorem dX5_writePaper_64 : decode cX5_writePaper 64 = .ok (.iaload, 1) := by decide +kernel
theorem dX5_writePaper_65 : decode cX5_writePaper 65 = .ok (.aload_n 0, 1) := by decide +kernel
theorem dX5_writePaper_66 : decode cX5_writePaper 66 = .ok (.getfield 12, 3) := by decide +kernel
theorem dX5_writePaper_69 : decode cX5_writePaper 69 = .ok (.iload_n 1, 1) := by decide +kernel
theorem dX5_writePaper_70 : decode cX5_writePaper 70 = .ok (.iload_n 2, 1) := by decide +kernel
theorem dX5_writePaper_71 : decode cX5_writePaper 71 = .ok (.invokevirtual 182, 3) := by decide +kernel
theorem dX5_writePaper_74 : decode cX5_writePaper 74 = .ok (.if_icmp .le 13, 3) := by decide +kernel
theorem dX5_writePaper_77 : decode cX5_writePaper 77 = .ok (.aload_n 0, 1) := by decide +kernel
theorem dX5_writePaper_78 : decode cX5_writePaper 78 = .ok (.getfield 54, 3) := by decide +kernel
theorem dX5_writePaper_81 : decode cX5_writePaper 81 = .ok (.bipush 114, 2) := by decide +kernel
theorem dX5_writePaper_83 : decode cX5_writePaper 83 = .ok (.invokevirtual 320, 3) := by decide +kernel
theorem dX5_writePaper_86 : decode cX5_writePaper 86 = .ok (.pop, 1) := by decide +kernel
theorem dX5_writePaper_87 : decode cX5_writePaper 87 = .ok (.aload_n 0, 1) := by decide +kernel
theorem dX5_writePaper_88 : decode cX5_writePaper 88 = .ok (.getfield 33, 3) := by decide +kernel
theorem dX5_writePaper_91 : decode cX5_writePaper 91 = .ok (.getfield 133, 3) := by decide +kernel
theorem dX5_writePaper_94 : decode cX5_writePaper 94 = .ok (.iload_n 2, 1) := by decide +kernel
theorem dX5_writePaper_95 : decode cX5_writePaper 95 = .ok (.iaload, 1) := by decide +kernel
theorem dX5_writePaper_96 : decode cX5_writePaper 96 = .ok (.iconst 2, 1) := by decide +kernel
theorem dX5_writePaper_97 : decode cX5_writePaper 97 = .ok (.if_icmp .ne 13, 3) := by decide +kernel
theorem dX5_writePaper_100 : decode cX5_writePaper 100 = .ok (.aload_n 0, 1) := by decide +kernel
theorem dX5_writePaper_101 : decode cX5_writePaper 101 = .ok (.getfield 54, 3) := by decide +kernel
theorem dX5_writePaper_104 : decode cX5_writePaper 104 = .ok (.bipush 99, 2) := by decide +kernel
theorem dX5_writePaper_106 : decode cX5_writePaper 106 = .ok (.invokevirtual 320, 3) := by decide +kernel
theorem dX5_writePaper_109 : decode cX5_writePaper 109 = .ok (.pop, 1) := by decide +kernel
theorem dX5_writePaper_110 : decode cX5_writePaper 110 = .ok (.aload_n 0, 1) := by decide +kernel
theorem dX5_writePaper_111 : decode cX5_writePaper 111 = .ok (.getfield 33, 3) := by decide +kernel
theorem dX5_writePaper_114 : decode cX5_writePaper 114 = .ok (.getfield 133, 3) := by decide +kernel
theorem dX5_writePaper_117 : decode cX5_writePaper 117 = .ok (.iload_n 2, 1) := by decide +kernel
theorem dX5_writePaper_118 : decode cX5_writePaper 118 = .ok (.iaload, 1) := by decide +kernel
theorem dX5_writePaper_119 : decode cX5_writePaper 119 = .ok (.iconst 3, 1) := by decide +kernel
theorem dX5_writePaper_120 : decode cX5_writePaper 120 = .ok (.if_icmp .ne 13, 3) := by decide +kernel
theorem dX5_writePaper_123 : decode cX5_writePaper 123 = .ok (.aload_n 0, 1) := by decide +kernel
theorem dX5_writePaper_124 : decode cX5_writePaper 124 = .ok (.getfield 54, 3) := by decide +kernel
theorem dX5_writePaper_127 : decode cX5_writePaper 127 = .ok (.bipush 102, 2) := by decide +kernel
theorem dX5_writePaper_129 : decode cX5_writePaper 129 = .ok (.invokevirtual 320, 3) := by decide +kernel
theorem dX5_writePaper_132 : decode cX5_writePaper 132 = .ok (.pop, 1) := by decide +kernel
theorem dX5_writePaper_133 : decode cX5_writePaper 133 = .ok (.return_, 1) := by decide +kernel
theorem dX5_written_0 : decode cX5_written 0 = .ok (.iload_n 1, 1) := by decide +kernel
theorem dX5_written_1 : decode cX5_written 1 = .ok (.ifCond .lt 14, 3) := by decide +kernel
theorem dX5_written_4 : decode cX5_written 4 = .ok (.iload_n 1, 1) := by decide +kernel
theorem dX5_written_5 : decode cX5_written 5 = .ok (.aload_n 0, 1) := by decide +kernel
theorem dX5_written_6 : decode cX5_written 6 = .ok (.getfield 54, 3) := by decide +kernel
theorem dX5_written_9 : decode cX5_written 9 = .ok (.invokevirtual 317, 3) := by decide +kernel
theorem dX5_written_12 : decode cX5_written 12 = .ok (.if_icmp .lt 5, 3) := by decide +kernel
theorem dX5_written_15 : decode cX5_written 15 = .ok (.iconst (-1), 1) := by decide +kernel
theorem dX5_written_16 : decode cX5_written 16 = .ok (.ireturn, 1) := by decide +kernel
theorem dX5_written_17 : decode cX5_written 17 = .ok (.aload_n 0, 1) := by decide +kernel
theorem dX5_written_18 : decode cX5_written 18 = .ok (.getfield 54, 3) := by decide +kernel
theorem dX5_written_21 : decode cX5_written 21 = .ok (.iload_n 1, 1) := by decide +kernel
theorem dX5_written_22 : decode cX5_written 22 = .ok (.invokevirtual 362, 3) := by decide +kernel
theorem dX5_written_25 : decode cX5_written 25 = .ok (.ireturn, 1) := by decide +kernel
theorem dX5_account_0 : decode cX5_account 0 = .ok (.iload_n 1, 1) := by decide +kernel
theorem dX5_account_1 : decode cX5_account 1 = .ok (.bipush 11, 2) := by decide +kernel
theorem dX5_account_3 : decode cX5_account 3 = .ok (.bipush 15, 2) := by decide +kernel
theorem dX5_account_5 : decode cX5_account 5 = .ok (.invokestatic 80, 3) := by decide +kernel
theorem dX5_account_8 : decode cX5_account 8 = .ok (.ifCond .eq 16, 3) := by decide +kernel
theorem dX5_account_11 : decode cX5_account 11 = .ok (.aload_n 0, 1) := by decide +kernel
theorem dX5_account_12 : decode cX5_account 12 = .ok (.getfield 12, 3) := by decide +kernel
theorem dX5_account_15 : decode cX5_account 15 = .ok (.getfield 72, 3) := by decide +kernel
theorem dX5_account_18 : decode cX5_account 18 = .ok (.iload_n 1, 1) := by decide +kernel
theorem dX5_account_19 : decode cX5_account 19 = .ok (.bipush 11, 2) := by decide +kernel
theorem dX5_account_21 : decode cX5_account 21 = .ok (.isub, 1) := by decide +kernel
theorem dX5_account_22 : decode cX5_account 22 = .ok (.iaload, 1) := by decide +kernel
theorem dX5_account_23 : decode cX5_account 23 = .ok (.ireturn, 1) := by decide +kernel
theorem dX5_account_24 : decode cX5_account 24 = .ok (.iload_n 1, 1) := by decide +kernel
theorem dX5_account_25 : decode cX5_account 25 = .ok (.tableswitch 147 0 10 #[59, 67, 75, 83, 91, 99, 107, 115, 123, 128, 139], 59) := by decide +kernel
theorem dX5_account_84 : decode cX5_account 84 = .ok (.aload_n 0, 1) := by decide +kernel
theorem dX5_account_85 : decode cX5_account 85 = .ok (.getfield 12, 3) := by decide +kernel
theorem dX5_account_88 : decode cX5_account 88 = .ok (.getfield 84, 3) := by decide +kernel
theorem dX5_account_91 : decode cX5_account 91 = .ok (.ireturn, 1) := by decide +kernel
theorem dX5_account_92 : decode cX5_account 92 = .ok (.aload_n 0, 1) := by decide +kernel
theorem dX5_account_93 : decode cX5_account 93 = .ok (.getfield 12, 3) := by decide +kernel
theorem dX5_account_96 : decode cX5_account 96 = .ok (.getfield 94, 3) := by decide +kernel
theorem dX5_account_99 : decode cX5_account 99 = .ok (.ireturn, 1) := by decide +kernel
theorem dX5_account_100 : decode cX5_account 100 = .ok (.aload_n 0, 1) := by decide +kernel
theorem dX5_account_101 : decode cX5_account 101 = .ok (.getfield 12, 3) := by decide +kernel
theorem dX5_account_104 : decode cX5_account 104 = .ok (.getfield 109, 3) := by decide +kernel
theorem dX5_account_107 : decode cX5_account 107 = .ok (.ireturn, 1) := by decide +kernel
theorem dX5_account_108 : decode cX5_account 108 = .ok (.aload_n 0, 1) := by decide +kernel
theorem dX5_account_109 : decode cX5_account 109 = .ok (.getfield 12, 3) := by decide +kernel
theorem dX5_account_112 : decode cX5_account 112 = .ok (.getfield 191, 3) := by decide +kernel
theorem dX5_account_115 : decode cX5_account 115 = .ok (.ireturn, 1) := by decide +kernel
theorem dX5_account_116 : decode cX5_account 116 = .ok (.aload_n 0, 1) := by decide +kernel
theorem dX5_account_117 : decode cX5_account 117 = .ok (.getfield 12, 3) := by decide +kernel
theorem dX5_account_120 : decode cX5_account 120 = .ok (.invokevirtual 366, 3) := by decide +kernel
theorem dX5_account_123 : decode cX5_account 123 = .ok (.ireturn, 1) := by decide +kernel
theorem dX5_account_124 : decode cX5_account 124 = .ok (.aload_n 0, 1) := by decide +kernel
theorem dX5_account_125 : decode cX5_account 125 = .ok (.getfield 12, 3) := by decide +kernel
theorem dX5_account_128 : decode cX5_account 128 = .ok (.invokevirtual 369, 3) := by decide +kernel
theorem dX5_account_131 : decode cX5_account 131 = .ok (.ireturn, 1) := by decide +kernel
theorem dX5_account_132 : decode cX5_account 132 = .ok (.aload_n 0, 1) := by decide +kernel
theorem dX5_account_133 : decode cX5_account 133 = .ok (.getfield 12, 3) := by decide +kernel
theorem dX5_account_136 : decode cX5_account 136 = .ok (.invokevirtual 372, 3) := by decide +kernel
theorem dX5_account_139 : decode cX5_account 139 = .ok (.ireturn, 1) := by decide +kernel
theorem dX5_account_140 : decode cX5_account 140 = .ok (.aload_n 0, 1) := by decide +kernel
theorem dX5_account_141 : decode cX5_account 141 = .ok (.getfield 12, 3) := by decide +kernel
theorem dX5_account_144 : decode cX5_account 144 = .ok (.invokevirtual 375, 3) := by decide +kernel
theorem dX5_account_147 : decode cX5_account 147 = .ok (.ireturn, 1) := by decide +kernel
theorem dX5_account_148 : decode cX5_account 148 = .ok (.aload_n 0, 1) := by decide +kernel
theorem dX5_account_149 : decode cX5_account 149 = .ok (.invokevirtual 378, 3) := by decide +kernel
theorem dX5_account_152 : decode cX5_account 152 = .ok (.ireturn, 1) := by decide +kernel
theorem dX5_account_153 : decode cX5_account 153 = .ok (.aload_n 0, 1) := by decide +kernel
theorem dX5_account_154 : decode cX5_account 154 = .ok (.getfield 47, 3) := by decide +kernel
theorem dX5_account_157 : decode cX5_account 157 = .ok (.getfield 314, 3) := by decide +kernel
theorem dX5_account_160 : decode cX5_account 160 = .ok (.invokevirtual 317, 3) := by decide +kernel
theorem dX5_account_163 : decode cX5_account 163 = .ok (.ireturn, 1) := by decide +kernel
theorem dX5_account_164 : decode cX5_account 164 = .ok (.aload_n 0, 1) := by decide +kernel
theorem dX5_account_165 : decode cX5_account 165 = .ok (.getfield 26, 3) := by decide +kernel
theorem dX5_account_168 : decode cX5_account 168 = .ok (.getfield 381, 3) := by decide +kernel
theorem dX5_account_171 : decode cX5_account 171 = .ok (.ireturn, 1) := by decide +kernel
theorem dX5_account_172 : decode cX5_account 172 = .ok (.bipush (-2), 2) := by decide +kernel
theorem dX5_account_174 : decode cX5_account 174 = .ok (.ireturn, 1) := by decide +kernel
theorem dX5_allPassedCredits_0 : decode cX5_allPassedCredits 0 = .ok (.iconst 0, 1) := by decide +kernel
theorem dX5_allPassedCredits_1 : decode cX5_allPassedCredits 1 = .ok (.istore_n 1, 1) := by decide +kernel
theorem dX5_allPassedCredits_2 : decode cX5_allPassedCredits 2 = .ok (.iconst 0, 1) := by decide +kernel
theorem dX5_allPassedCredits_3 : decode cX5_allPassedCredits 3 = .ok (.istore_n 2, 1) := by decide +kernel
theorem dX5_allPassedCredits_4 : decode cX5_allPassedCredits 4 = .ok (.iload_n 2, 1) := by decide +kernel
theorem dX5_allPassedCredits_5 : decode cX5_allPassedCredits 5 = .ok (.aload_n 0, 1) := by decide +kernel
theorem dX5_allPassedCredits_6 : decode cX5_allPassedCredits 6 = .ok (.getfield 12, 3) := by decide +kernel
theorem dX5_allPassedCredits_9 : decode cX5_allPassedCredits 9 = .ok (.getfield 109, 3) := by decide +kernel
theorem dX5_allPassedCredits_12 : decode cX5_allPassedCredits 12 = .ok (.if_icmp .ge 31, 3) := by decide +kernel
theorem dX5_allPassedCredits_15 : decode cX5_allPassedCredits 15 = .ok (.aload_n 0, 1) := by decide +kernel
theorem dX5_allPassedCredits_16 : decode cX5_allPassedCredits 16 = .ok (.getfield 33, 3) := by decide +kernel
theorem dX5_allPassedCredits_19 : decode cX5_allPassedCredits 19 = .ok (.aload_n 0, 1) := by decide +kernel
theorem dX5_allPassedCredits_20 : decode cX5_allPassedCredits 20 = .ok (.getfield 12, 3) := by decide +kernel
theorem dX5_allPassedCredits_23 : decode cX5_allPassedCredits 23 = .ok (.iload_n 2, 1) := by decide +kernel
theorem dX5_allPassedCredits_24 : decode cX5_allPassedCredits 24 = .ok (.invokevirtual 129, 3) := by decide +kernel
theorem dX5_allPassedCredits_27 : decode cX5_allPassedCredits 27 = .ok (.iload_n 1, 1) := by decide +kernel
theorem dX5_allPassedCredits_28 : decode cX5_allPassedCredits 28 = .ok (.aload_n 0, 1) := by decide +kernel
theorem dX5_allPassedCredits_29 : decode cX5_allPassedCredits 29 = .ok (.getfield 33, 3) := by decide +kernel
theorem dX5_allPassedCredits_32 : decode cX5_allPassedCredits 32 = .ok (.getfield 260, 3) := by decide +kernel
theorem dX5_allPassedCredits_35 : decode cX5_allPassedCredits 35 = .ok (.iadd, 1) := by decide +kernel
theorem dX5_allPassedCredits_36 : decode cX5_allPassedCredits 36 = .ok (.istore_n 1, 1) := by decide +kernel
theorem dX5_allPassedCredits_37 : decode cX5_allPassedCredits 37 = .ok (.iinc 2 1, 3) := by decide +kernel
theorem dX5_allPassedCredits_40 : decode cX5_allPassedCredits 40 = .ok (.goto (-36), 3) := by decide +kernel
theorem dX5_allPassedCredits_43 : decode cX5_allPassedCredits 43 = .ok (.iload_n 1, 1) := by decide +kernel
theorem dX5_allPassedCredits_44 : decode cX5_allPassedCredits 44 = .ok (.ireturn, 1) := by decide +kernel
theorem dX5_undo_0 : decode cX5_undo 0 = .ok (.aload_n 0, 1) := by decide +kernel
theorem dX5_undo_1 : decode cX5_undo 1 = .ok (.getfield 26, 3) := by decide +kernel
theorem dX5_undo_4 : decode cX5_undo 4 = .ok (.getfield 381, 3) := by decide +kernel
theorem dX5_undo_7 : decode cX5_undo 7 = .ok (.ifCond .ne 6, 3) := by decide +kernel
theorem dX5_undo_10 : decode cX5_undo 10 = .ok (.bipush (-5), 2) := by decide +kernel
theorem dX5_undo_12 : decode cX5_undo 12 = .ok (.ireturn, 1) := by decide +kernel
theorem dX5_undo_13 : decode cX5_undo 13 = .ok (.aload_n 0, 1) := by decide +kernel
theorem dX5_undo_14 : decode cX5_undo 14 = .ok (.getfield 26, 3) := by decide +kernel
theorem dX5_undo_17 : decode cX5_undo 17 = .ok (.aload_n 0, 1) := by decide +kernel
theorem dX5_undo_18 : decode cX5_undo 18 = .ok (.getfield 12, 3) := by decide +kernel
theorem dX5_undo_21 : decode cX5_undo 21 = .ok (.invokevirtual 382, 3) := by decide +kernel
theorem dX5_undo_24 : decode cX5_undo 24 = .ok (.aload_n 0, 1) := by decide +kernel
theorem dX5_undo_25 : decode cX5_undo 25 = .ok (.getfield 26, 3) := by decide +kernel
theorem dX5_undo_28 : decode cX5_undo 28 = .ok (.getfield 381, 3) := by decide +kernel
theorem dX5_undo_31 : decode cX5_undo 31 = .ok (.ireturn, 1) := by decide +kernel
theorem dX5_save_0 : decode cX5_save 0 = .ok (.aload_n 0, 1) := by decide +kernel
theorem dX5_save_1 : decode cX5_save 1 = .ok (.getfield 16, 3) := by decide +kernel
theorem dX5_save_4 : decode cX5_save 4 = .ok (.aload_n 0, 1) := by decide +kernel
theorem dX5_save_5 : decode cX5_save 5 = .ok (.getfield 12, 3) := by decide +kernel
theorem dX5_save_8 : decode cX5_save 8 = .ok (.invokevirtual 385, 3) := by decide +kernel
theorem dX5_save_11 : decode cX5_save 11 = .ok (.aload_n 0, 1) := by decide +kernel
theorem dX5_save_12 : decode cX5_save 12 = .ok (.iconst 1, 1) := by decide +kernel
theorem dX5_save_13 : decode cX5_save 13 = .ok (.putfield 19, 3) := by decide +kernel
theorem dX5_save_16 : decode cX5_save 16 = .ok (.aload_n 0, 1) := by decide +kernel
theorem dX5_save_17 : decode cX5_save 17 = .ok (.getfield 12, 3) := by decide +kernel
theorem dX5_save_20 : decode cX5_save 20 = .ok (.getfield 109, 3) := by decide +kernel
theorem dX5_save_23 : decode cX5_save 23 = .ok (.ireturn, 1) := by decide +kernel
theorem dX5_restore_0 : decode cX5_restore 0 = .ok (.aload_n 0, 1) := by decide +kernel
theorem dX5_restore_1 : decode cX5_restore 1 = .ok (.getfield 19, 3) := by decide +kernel
theorem dX5_restore_4 : decode cX5_restore 4 = .ok (.ifCond .ne 6, 3) := by decide +kernel
theorem dX5_restore_7 : decode cX5_restore 7 = .ok (.bipush (-5), 2) := by decide +kernel
theorem dX5_restore_9 : decode cX5_restore 9 = .ok (.ireturn, 1) := by decide +kernel
theorem dX5_restore_10 : decode cX5_restore 10 = .ok (.aload_n 0, 1) := by decide +kernel
theorem dX5_restore_11 : decode cX5_restore 11 = .ok (.getfield 12, 3) := by decide +kernel
theorem dX5_restore_14 : decode cX5_restore 14 = .ok (.aload_n 0, 1) := by decide +kernel
theorem dX5_restore_15 : decode cX5_restore 15 = .ok (.getfield 16, 3) := by decide +kernel
theorem dX5_restore_18 : decode cX5_restore 18 = .ok (.invokevirtual 385, 3) := by decide +kernel
theorem dX5_restore_21 : decode cX5_restore 21 = .ok (.aload_n 0, 1) := by decide +kernel
theorem dX5_restore_22 : decode cX5_restore 22 = .ok (.getfield 26, 3) := by decide +kernel
theorem dX5_restore_25 : decode cX5_restore 25 = .ok (.iconst 0, 1) := by decide +kernel
theorem dX5_restore_26 : decode cX5_restore 26 = .ok (.putfield 381, 3) := by decide +kernel
theorem dX5_restore_29 : decode cX5_restore 29 = .ok (.aload_n 0, 1) := by decide +kernel
theorem dX5_restore_30 : decode cX5_restore 30 = .ok (.getfield 12, 3) := by decide +kernel
theorem dX5_restore_33 : decode cX5_restore 33 = .ok (.getfield 109, 3) := by decide +kernel
theorem dX5_restore_36 : decode cX5_restore 36 = .ok (.ireturn, 1) := by decide +kernel
theorem dX5_isWithin_0 : decode cX5_isWithin 0 = .ok (.iload_n 0, 1) := by decide +kernel
theorem dX5_isWithin_1 : decode cX5_isWithin 1 = .ok (.iload_n 1, 1) := by decide +kernel
theorem dX5_isWithin_2 : decode cX5_isWithin 2 = .ok (.if_icmp .lt 12, 3) := by decide +kernel
theorem dX5_isWithin_5 : decode cX5_isWithin 5 = .ok (.iload_n 0, 1) := by decide +kernel
theorem dX5_isWithin_6 : decode cX5_isWithin 6 = .ok (.iload_n 2, 1) := by decide +kernel
theorem dX5_isWithin_7 : decode cX5_isWithin 7 = .ok (.if_icmp .gt 7, 3) := by decide +kernel
theorem dX5_isWithin_10 : decode cX5_isWithin 10 = .ok (.iconst 1, 1) := by decide +kernel
theorem dX5_isWithin_11 : decode cX5_isWithin 11 = .ok (.goto 4, 3) := by decide +kernel
theorem dX5_isWithin_14 : decode cX5_isWithin 14 = .ok (.iconst 0, 1) := by decide +kernel
theorem dX5_isWithin_15 : decode cX5_isWithin 15 = .ok (.ireturn, 1) := by decide +kernel
theorem dX5_isCohort_0 : decode cX5_isCohort 0 = .ok (.iload_n 0, 1) := by decide +kernel
theorem dX5_isCohort_1 : decode cX5_isCohort 1 = .ok (.iconst 0, 1) := by decide +kernel
theorem dX5_isCohort_2 : decode cX5_isCohort 2 = .ok (.iconst 2, 1) := by decide +kernel
theorem dX5_isCohort_3 : decode cX5_isCohort 3 = .ok (.invokestatic 80, 3) := by decide +kernel
theorem dX5_isCohort_6 : decode cX5_isCohort 6 = .ok (.ireturn, 1) := by decide +kernel
theorem dX5_isSetting_0 : decode cX5_isSetting 0 = .ok (.iload_n 0, 1) := by decide +kernel
theorem dX5_isSetting_1 : decode cX5_isSetting 1 = .ok (.iconst 0, 1) := by decide +kernel
theorem dX5_isSetting_2 : decode cX5_isSetting 2 = .ok (.iconst 4, 1) := by decide +kernel
theorem dX5_isSetting_3 : decode cX5_isSetting 3 = .ok (.invokestatic 80, 3) := by decide +kernel
theorem dX5_isSetting_6 : decode cX5_isSetting 6 = .ok (.ifCond .eq 24, 3) := by decide +kernel
theorem dX5_isSetting_9 : decode cX5_isSetting 9 = .ok (.iload_n 1, 1) := by decide +kernel
theorem dX5_isSetting_10 : decode cX5_isSetting 10 = .ok (.getstatic 388, 3) := by decide +kernel
theorem dX5_isSetting_13 : decode cX5_isSetting 13 = .ok (.iload_n 0, 1) := by decide +kernel
theorem dX5_isSetting_14 : decode cX5_isSetting 14 = .ok (.iaload, 1) := by decide +kernel
theorem dX5_isSetting_15 : decode cX5_isSetting 15 = .ok (.getstatic 391, 3) := by decide +kernel
theorem dX5_isSetting_18 : decode cX5_isSetting 18 = .ok (.iload_n 0, 1) := by decide +kernel
theorem dX5_isSetting_19 : decode cX5_isSetting 19 = .ok (.iaload, 1) := by decide +kernel
theorem dX5_isSetting_20 : decode cX5_isSetting 20 = .ok (.invokestatic 80, 3) := by decide +kernel
theorem dX5_isSetting_23 : decode cX5_isSetting 23 = .ok (.ifCond .eq 7, 3) := by decide +kernel
theorem dX5_isSetting_26 : decode cX5_isSetting 26 = .ok (.iconst 1, 1) := by decide +kernel
theorem dX5_isSetting_27 : decode cX5_isSetting 27 = .ok (.goto 4, 3) := by decide +kernel
theorem dX5_isSetting_30 : decode cX5_isSetting 30 = .ok (.iconst 0, 1) := by decide +kernel
theorem dX5_isSetting_31 : decode cX5_isSetting 31 = .ok (.ireturn, 1) := by decide +kernel
theorem dX5_nearest_0 : decode cX5_nearest 0 = .ok (.iload_n 1, 1) := by decide +kernel
theorem dX5_nearest_1 : decode cX5_nearest 1 = .ok (.ifCond .gt 5, 3) := by decide +kernel
theorem dX5_nearest_4 : decode cX5_nearest 4 = .ok (.iload_n 2, 1) := by decide +kernel
theorem dX5_nearest_5 : decode cX5_nearest 5 = .ok (.ireturn, 1) := by decide +kernel
theorem dX5_nearest_6 : decode cX5_nearest 6 = .ok (.iconst 2, 1) := by decide +kernel
theorem dX5_nearest_7 : decode cX5_nearest 7 = .ok (.iload_n 0, 1) := by decide +kernel
theorem dX5_nearest_8 : decode cX5_nearest 8 = .ok (.imul, 1) := by decide +kernel
theorem dX5_nearest_9 : decode cX5_nearest 9 = .ok (.iload_n 1, 1) := by decide +kernel
theorem dX5_nearest_10 : decode cX5_nearest 10 = .ok (.iadd, 1) := by decide +kernel
theorem dX5_nearest_11 : decode cX5_nearest 11 = .ok (.iconst 2, 1) := by decide +kernel
theorem dX5_nearest_12 : decode cX5_nearest 12 = .ok (.iload_n 1, 1) := by decide +kernel
theorem dX5_nearest_13 : decode cX5_nearest 13 = .ok (.imul, 1) := by decide +kernel
theorem dX5_nearest_14 : decode cX5_nearest 14 = .ok (.idiv, 1) := by decide +kernel
theorem dX5_nearest_15 : decode cX5_nearest 15 = .ok (.ireturn, 1) := by decide +kernel
theorem dX5_rankOfClass_0 : decode cX5_rankOfClass 0 = .ok (.iload_n 0, 1) := by decide +kernel
theorem dX5_rankOfClass_1 : decode cX5_rankOfClass 1 = .ok (.ifCond .ne 8, 3) := by decide +kernel
theorem dX5_rankOfClass_4 : decode cX5_rankOfClass 4 = .ok (.bipush 6, 2) := by decide +kernel
theorem dX5_rankOfClass_6 : decode cX5_rankOfClass 6 = .ok (.goto 4, 3) := by decide +kernel
theorem dX5_rankOfClass_9 : decode cX5_rankOfClass 9 = .ok (.iload_n 0, 1) := by decide +kernel
theorem dX5_rankOfClass_10 : decode cX5_rankOfClass 10 = .ok (.ireturn, 1) := by decide +kernel
