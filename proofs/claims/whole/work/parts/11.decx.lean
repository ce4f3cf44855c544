theorem dX0_init_0 : decode cX0_init 0 = .ok (.aload_n 0, 1) := by decide +kernel
theorem dX0_init_1 : decode cX0_init 1 = .ok (.invokespecial 3, 3) := by decide +kernel
theorem dX0_init_4 : decode cX0_init 4 = .ok (.aload_n 0, 1) := by decide +kernel
theorem dX0_init_5 : decode cX0_init 5 = .ok (.iconst 0, 1) := by decide +kernel
theorem dX0_init_6 : decode cX0_init 6 = .ok (.putfield 9, 3) := by decide +kernel
theorem dX0_init_9 : decode cX0_init 9 = .ok (.aload_n 0, 1) := by decide +kernel
theorem dX0_init_10 : decode cX0_init 10 = .ok (.iconst 0, 1) := by decide +kernel
theorem dX0_init_11 : decode cX0_init 11 = .ok (.putfield 15, 3) := by decide +kernel
theorem dX0_init_14 : decode cX0_init 14 = .ok (.aload_n 0, 1) := by decide +kernel
theorem dX0_init_15 : decode cX0_init 15 = .ok (.iconst 0, 1) := by decide +kernel
theorem dX0_init_16 : decode cX0_init 16 = .ok (.putfield 18, 3) := by decide +kernel
theorem dX0_init_19 : decode cX0_init 19 = .ok (.aload_n 0, 1) := by decide +kernel
theorem dX0_init_20 : decode cX0_init 20 = .ok (.iconst 0, 1) := by decide +kernel
theorem dX0_init_21 : decode cX0_init 21 = .ok (.putfield 21, 3) := by decide +kernel
theorem dX0_init_24 : decode cX0_init 24 = .ok (.aload_n 0, 1) := by decide +kernel
theorem dX0_init_25 : decode cX0_init 25 = .ok (.iconst 5, 1) := by decide +kernel
theorem dX0_init_26 : decode cX0_init 26 = .ok (.newarray .int, 2) := by decide +kernel
theorem dX0_init_28 : decode cX0_init 28 = .ok (.dup, 1) := by decide +kernel
theorem dX0_init_29 : decode cX0_init 29 = .ok (.iconst 0, 1) := by decide +kernel
theorem dX0_init_30 : decode cX0_init 30 = .ok (.bipush 40, 2) := by decide +kernel
theorem dX0_init_32 : decode cX0_init 32 = .ok (.iastore, 1) := by decide +kernel
theorem dX0_init_33 : decode cX0_init 33 = .ok (.dup, 1) := by decide +kernel
theorem dX0_init_34 : decode cX0_init 34 = .ok (.iconst 1, 1) := by decide +kernel
theorem dX0_init_35 : decode cX0_init 35 = .ok (.bipush 30, 2) := by decide +kernel
theorem dX0_init_37 : decode cX0_init 37 = .ok (.iastore, 1) := by decide +kernel
theorem dX0_init_38 : decode cX0_init 38 = .ok (.dup, 1) := by decide +kernel
theorem dX0_init_39 : decode cX0_init 39 = .ok (.iconst 2, 1) := by decide +kernel
theorem dX0_init_40 : decode cX0_init 40 = .ok (.iconst 2, 1) := by decide +kernel
theorem dX0_init_41 : decode cX0_init 41 = .ok (.iastore, 1) := by decide +kernel
theorem dX0_init_42 : decode cX0_init 42 = .ok (.dup, 1) := by decide +kernel
theorem dX0_init_43 : decode cX0_init 43 = .ok (.iconst 3, 1) := by decide +kernel
theorem dX0_init_44 : decode cX0_init 44 = .ok (.iconst 2, 1) := by decide +kernel
theorem dX0_init_45 : decode cX0_init 45 = .ok (.iastore, 1) := by decide +kernel
theorem dX0_init_46 : decode cX0_init 46 = .ok (.dup, 1) := by decide +kernel
theorem dX0_init_47 : decode cX0_init 47 = .ok (.iconst 4, 1) := by decide +kernel
theorem dX0_init_48 : decode cX0_init 48 = .ok (.bipush 40, 2) := by decide +kernel
theorem dX0_init_50 : decode cX0_init 50 = .ok (.iastore, 1) := by decide +kernel
theorem dX0_init_51 : decode cX0_init 51 = .ok (.putfield 24, 3) := by decide +kernel
theorem dX0_init_54 : decode cX0_init 54 = .ok (.aload_n 0, 1) := by decide +kernel
theorem dX0_init_55 : decode cX0_init 55 = .ok (.iconst 4, 1) := by decide +kernel
theorem dX0_init_56 : decode cX0_init 56 = .ok (.newarray .int, 2) := by decide +kernel
theorem dX0_init_58 : decode cX0_init 58 = .ok (.putfield 28, 3) := by decide +kernel
theorem dX0_init_61 : decode cX0_init 61 = .ok (.aload_n 0, 1) := by decide +kernel
theorem dX0_init_62 : decode cX0_init 62 = .ok (.bipush 8, 2) := by decide +kernel
theorem dX0_init_64 : decode cX0_init 64 = .ok (.newarray .int, 2) := by decide +kernel
theorem dX0_init_66 : decode cX0_init 66 = .ok (.putfield 31, 3) := by decide +kernel
theorem dX0_init_69 : decode cX0_init 69 = .ok (.aload_n 0, 1) := by decide +kernel
theorem dX0_init_70 : decode cX0_init 70 = .ok (.bipush 8, 2) := by decide +kernel
theorem dX0_init_72 : decode cX0_init 72 = .ok (.newarray .int, 2) := by decide +kernel
theorem dX0_init_74 : decode cX0_init 74 = .ok (.putfield 34, 3) := by decide +kernel
theorem dX0_init_77 : decode cX0_init 77 = .ok (.aload_n 0, 1) := by decide +kernel
theorem dX0_init_78 : decode cX0_init 78 = .ok (.bipush 8, 2) := by decide +kernel
theorem dX0_init_80 : decode cX0_init 80 = .ok (.newarray .int, 2) := by decide +kernel
theorem dX0_init_82 : decode cX0_init 82 = .ok (.putfield 37, 3) := by decide +kernel
theorem dX0_init_85 : decode cX0_init 85 = .ok (.aload_n 0, 1) := by decide +kernel
theorem dX0_init_86 : decode cX0_init 86 = .ok (.bipush 20, 2) := by decide +kernel
theorem dX0_init_88 : decode cX0_init 88 = .ok (.newarray .int, 2) := by decide +kernel
theorem dX0_init_90 : decode cX0_init 90 = .ok (.putfield 40, 3) := by decide +kernel
theorem dX0_init_93 : decode cX0_init 93 = .ok (.aload_n 0, 1) := by decide +kernel
theorem dX0_init_94 : decode cX0_init 94 = .ok (.sipush 160, 3) := by decide +kernel
theorem dX0_init_97 : decode cX0_init 97 = .ok (.newarray .int, 2) := by decide +kernel
theorem dX0_init_99 : decode cX0_init 99 = .ok (.putfield 43, 3) := by decide +kernel
theorem dX0_init_102 : decode cX0_init 102 = .ok (.aload_n 0, 1) := by decide +kernel
theorem dX0_init_103 : decode cX0_init 103 = .ok (.sipush 160, 3) := by decide +kernel
theorem dX0_init_106 : decode cX0_init 106 = .ok (.newarray .int, 2) := by decide +kernel
theorem dX0_init_108 : decode cX0_init 108 = .ok (.putfield 46, 3) := by decide +kernel
theorem dX0_init_111 : decode cX0_init 111 = .ok (.aload_n 0, 1) := by decide +kernel
theorem dX0_init_112 : decode cX0_init 112 = .ok (.sipush 160, 3) := by decide +kernel
theorem dX0_init_115 : decode cX0_init 115 = .ok (.newarray .int, 2) := by decide +kernel
theorem dX0_init_117 : decode cX0_init 117 = .ok (.putfield 49, 3) := by decide +kernel
theorem dX0_init_120 : decode cX0_init 120 = .ok (.aload_n 0, 1) := by decide +kernel
theorem dX0_init_121 : decode cX0_init 121 = .ok (.sipush 160, 3) := by decide +kernel
theorem dX0_init_124 : decode cX0_init 124 = .ok (.newarray .int, 2) := by decide +kernel
theorem dX0_init_126 : decode cX0_init 126 = .ok (.putfield 52, 3) := by decide +kernel
theorem dX0_init_129 : decode cX0_init 129 = .ok (.aload_n 0, 1) := by decide +kernel
theorem dX0_init_130 : decode cX0_init 130 = .ok (.bipush 24, 2) := by decide +kernel
theorem dX0_init_132 : decode cX0_init 132 = .ok (.newarray .int, 2) := by decide +kernel
theorem dX0_init_134 : decode cX0_init 134 = .ok (.putfield 55, 3) := by decide +kernel
theorem dX0_init_137 : decode cX0_init 137 = .ok (.aload_n 0, 1) := by decide +kernel
theorem dX0_init_138 : decode cX0_init 138 = .ok (.bipush 24, 2) := by decide +kernel
theorem dX0_init_140 : decode cX0_init 140 = .ok (.newarray .int, 2) := by decide +kernel
theorem dX0_init_142 : decode cX0_init 142 = .ok (.putfield 58, 3) := by decide +kernel
theorem dX0_init_145 : decode cX0_init 145 = .ok (.aload_n 0, 1) := by decide +kernel
theorem dX0_init_146 : decode cX0_init 146 = .ok (.bipush 24, 2) := by decide +kernel
theorem dX0_init_148 : decode cX0_init 148 = .ok (.newarray .int, 2) := by decide +kernel
theorem dX0_init_150 : decode cX0_init 150 = .ok (.putfield 61, 3) := by decide +kernel
theorem dX0_init_153 : decode cX0_init 153 = .ok (.aload_n 0, 1) := by decide +kernel
theorem dX0_init_154 : decode cX0_init 154 = .ok (.bipush 24, 2) := by decide +kernel
theorem dX0_init_156 : decode cX0_init 156 = .ok (.newarray .int, 2) := by decide +kernel
theorem dX0_init_158 : decode cX0_init 158 = .ok (.putfield 64, 3) := by decide +kernel
theorem dX0_init_161 : decode cX0_init 161 = .ok (.iconst 0, 1) := by decide +kernel
theorem dX0_init_162 : decode cX0_init 162 = .ok (.istore_n 1, 1) := by decide +kernel
theorem dX0_init_163 : decode cX0_init 163 = .ok (.iload_n 1, 1) := by decide +kernel
theorem dX0_init_164 : decode cX0_init 164 = .ok (.aload_n 0, 1) := by decide +kernel
theorem dX0_init_165 : decode cX0_init 165 = .ok (.getfield 49, 3) := by decide +kernel
theorem dX0_init_168 : decode cX0_init 168 = .ok (.arraylength, 1) := by decide +kernel
theorem dX0_init_169 : decode cX0_init 169 = .ok (.if_icmp .ge 16, 3) := by decide +kernel
theorem dX0_init_172 : decode cX0_init 172 = .ok (.aload_n 0, 1) := by decide +kernel
theorem dX0_init_173 : decode cX0_init 173 = .ok (.getfield 49, 3) := by decide +kernel
theorem dX0_init_176 : decode cX0_init 176 = .ok (.iload_n 1, 1) := by decide +kernel
theorem dX0_init_177 : decode cX0_init 177 = .ok (.iconst (-1), 1) := by decide +kernel
theorem dX0_init_178 : decode cX0_init 178 = .ok (.iastore, 1) := by decide +kernel
theorem dX0_init_179 : decode cX0_init 179 = .ok (.iinc 1 1, 3) := by decide +kernel
theorem dX0_init_182 : decode cX0_init 182 = .ok (.goto (-19), 3) := by decide +kernel
theorem dX0_init_185 : decode cX0_init 185 = .ok (.return_, 1) := by decide +kernel
theorem dX0_copyFrom_0 : decode cX0_copyFrom 0 = .ok (.aload_n 0, 1) := by decide +kernel
theorem dX0_copyFrom_1 : decode cX0_copyFrom 1 = .ok (.aload_n 1, 1) := by decide +kernel
theorem dX0_copyFrom_2 : decode cX0_copyFrom 2 = .ok (.getfield 9, 3) := by decide +kernel
theorem dX0_copyFrom_5 : decode cX0_copyFrom 5 = .ok (.putfield 9, 3) := by decide +kernel
theorem dX0_copyFrom_8 : decode cX0_copyFrom 8 = .ok (.aload_n 0, 1) := by decide +kernel
theorem dX0_copyFrom_9 : decode cX0_copyFrom 9 = .ok (.aload_n 1, 1) := by decide +kernel
theorem dX0_copyFrom_10 : decode cX0_copyFrom 10 = .ok (.getfield 15, 3) := by decide +kernel
theorem dX0_copyFrom_13 : decode cX0_copyFrom 13 = .ok (.putfield 15, 3) := by decide +kernel
theorem dX0_copyFrom_16 : decode cX0_copyFrom 16 = .ok (.aload_n 0, 1) := by decide +kernel
theorem dX0_copyFrom_17 : decode cX0_copyFrom 17 = .ok (.aload_n 1, 1) := by decide +kernel
theorem dX0_copyFrom_18 : decode cX0_copyFrom 18 = .ok (.getfield 18, 3) := by decide +kernel
theorem dX0_copyFrom_21 : decode cX0_copyFrom 21 = .ok (.putfield 18, 3) := by decide +kernel
theorem dX0_copyFrom_24 : decode cX0_copyFrom 24 = .ok (.aload_n 0, 1) := by decide +kernel
theorem dX0_copyFrom_25 : decode cX0_copyFrom 25 = .ok (.aload_n 1, 1) := by decide +kernel
theorem dX0_copyFrom_26 : decode cX0_copyFrom 26 = .ok (.getfield 21, 3) := by decide +kernel
theorem dX0_copyFrom_29 : decode cX0_copyFrom 29 = .ok (.putfield 21, 3) := by decide +kernel
theorem dX0_copyFrom_32 : decode cX0_copyFrom 32 = .ok (.aload_n 1, 1) := by decide +kernel
theorem dX0_copyFrom_33 : decode cX0_copyFrom 33 = .ok (.getfield 24, 3) := by decide +kernel
theorem dX0_copyFrom_36 : decode cX0_copyFrom 36 = .ok (.aload_n 0, 1) := by decide +kernel
theorem dX0_copyFrom_37 : decode cX0_copyFrom 37 = .ok (.getfield 24, 3) := by decide +kernel
theorem dX0_copyFrom_40 : decode cX0_copyFrom 40 = .ok (.invokestatic 67, 3) := by decide +kernel
theorem dX0_copyFrom_43 : decode cX0_copyFrom 43 = .ok (.aload_n 1, 1) := by decide +kernel
theorem dX0_copyFrom_44 : decode cX0_copyFrom 44 = .ok (.getfield 28, 3) := by decide +kernel
theorem dX0_copyFrom_47 : decode cX0_copyFrom 47 = .ok (.aload_n 0, 1) := by decide +kernel
theorem dX0_copyFrom_48 : decode cX0_copyFrom 48 = .ok (.getfield 28, 3) := by decide +kernel
theorem dX0_copyFrom_51 : decode cX0_copyFrom 51 = .ok (.invokestatic 67, 3) := by decide +kernel
theorem dX0_copyFrom_54 : decode cX0_copyFrom 54 = .ok (.aload_n 1, 1) := by decide +kernel
theorem dX0_copyFrom_55 : decode cX0_copyFrom 55 = .ok (.getfield 31, 3) := by decide +kernel
theorem dX0_copyFrom_58 : decode cX0_copyFrom 58 = .ok (.aload_n 0, 1) := by decide +kernel
theorem dX0_copyFrom_59 : decode cX0_copyFrom 59 = .ok (.getfield 31, 3) := by decide +kernel
theorem dX0_copyFrom_62 : decode cX0_copyFrom 62 = .ok (.invokestatic 67, 3) := by decide +kernel
theorem dX0_copyFrom_65 : decode cX0_copyFrom 65 = .ok (.aload_n 1, 1) := by decide +kernel
theorem dX0_copyFrom_66 : decode cX0_copyFrom 66 = .ok (.getfield 34, 3) := by decide +kernel
theorem dX0_copyFrom_69 : decode cX0_copyFrom 69 = .ok (.aload_n 0, 1) := by decide +kernel
theorem dX0_copyFrom_70 : decode cX0_copyFrom 70 = .ok (.getfield 34, 3) := by decide +kernel
theorem dX0_copyFrom_73 : decode cX0_copyFrom 73 = .ok (.invokestatic 67, 3) := by decide +kernel
theorem dX0_copyFrom_76 : decode cX0_copyFrom 76 = .ok (.aload_n 1, 1) := by decide +kernel
theorem dX0_copyFrom_77 : decode cX0_copyFrom 77 = .ok (.getfield 37, 3) := by decide +kernel
theorem dX0_copyFrom_80 : decode cX0_copyFrom 80 = .ok (.aload_n 0, 1) := by decide +kernel
theorem dX0_copyFrom_81 : decode cX0_copyFrom 81 = .ok (.getfield 37, 3) := by decide +kernel
theorem dX0_copyFrom_84 : decode cX0_copyFrom 84 = .ok (.invokestatic 67, 3) := by decide +kernel
theorem dX0_copyFrom_87 : decode cX0_copyFrom 87 = .ok (.aload_n 1, 1) := by decide +kernel
theorem dX0_copyFrom_88 : decode cX0_copyFrom 88 = .ok (.getfield 40, 3) := by decide +kernel
theorem dX0_copyFrom_91 : decode cX0_copyFrom 91 = .ok (.aload_n 0, 1) := by decide +kernel
theorem dX0_copyFrom_92 : decode cX0_copyFrom 92 = .ok (.getfield 40, 3) := by decide +kernel
theorem dX0_copyFrom_95 : decode cX0_copyFrom 95 = .ok (.invokestatic 67, 3) := by decide +kernel
theorem dX0_copyFrom_98 : decode cX0_copyFrom 98 = .ok (.aload_n 1, 1) := by decide +kernel
theorem dX0_copyFrom_99 : decode cX0_copyFrom 99 = .ok (.getfield 43, 3) := by decide +kernel
theorem dX0_copyFrom_102 : decode cX0_copyFrom 102 = .ok (.aload_n 0, 1) := by decide +kernel
theorem dX0_copyFrom_103 : decode cX0_copyFrom 103 = .ok (.getfield 43, 3) := by decide +kernel
theorem dX0_copyFrom_106 : decode cX0_copyFrom 106 = .ok (.invokestatic 67, 3) := by decide +kernel
theorem dX0_copyFrom_109 : decode cX0_copyFrom 109 = .ok (.aload_n 1, 1) := by decide +kernel
theorem dX0_copyFrom_110 : decode cX0_copyFrom 110 = .ok (.getfield 46, 3) := by decide +kernel
theorem dX0_copyFrom_113 : decode cX0_copyFrom 113 = .ok (.aload_n 0, 1) := by decide +kernel
theorem dX0_copyFrom_114 : decode cX0_copyFrom 114 = .ok (.getfield 46, 3) := by decide +kernel
theorem dX0_copyFrom_117 : decode cX0_copyFrom 117 = .ok (.invokestatic 67, 3) := by decide +kernel
theorem dX0_copyFrom_120 : decode cX0_copyFrom 120 = .ok (.aload_n 1, 1) := by decide +kernel
theorem dX0_copyFrom_121 : decode cX0_copyFrom 121 = .ok (.getfield 49, 3) := by decide +kernel
theorem dX0_copyFrom_124 : decode cX0_copyFrom 124 = .ok (.aload_n 0, 1) := by decide +kernel
theorem dX0_copyFrom_125 : decode cX0_copyFrom 125 = .ok (.getfield 49, 3) := by decide +kernel
theorem dX0_copyFrom_128 : decode cX0_copyFrom 128 = .ok (.invokestatic 67, 3) := by decide +kernel
theorem dX0_copyFrom_131 : decode cX0_copyFrom 131 = .ok (.aload_n 1, 1) := by decide +kernel
theorem dX0_copyFrom_132 : decode cX0_copyFrom 132 = .ok (.getfield 52, 3) := by decide +kernel
theorem dX0_copyFrom_135 : decode cX0_copyFrom 135 = .ok (.aload_n 0, 1) := by decide +kernel
theorem dX0_copyFrom_136 : decode cX0_copyFrom 136 = .ok (.getfield 52, 3) := by decide +kernel
theorem dX0_copyFrom_139 : decode cX0_copyFrom 139 = .ok (.invokestatic 67, 3) := by decide +kernel
theorem dX0_copyFrom_142 : decode cX0_copyFrom 142 = .ok (.aload_n 1, 1) := by decide +kernel
theorem dX0_copyFrom_143 : decode cX0_copyFrom 143 = .ok (.getfield 55, 3) := by decide +kernel
theorem dX0_copyFrom_146 : decode cX0_copyFrom 146 = .ok (.aload_n 0, 1) := by decide +kernel
theorem dX0_copyFrom_147 : decode cX0_copyFrom 147 = .ok (.getfield 55, 3) := by decide +kernel
theorem dX0_copyFrom_150 : decode cX0_copyFrom 150 = .ok (.invokestatic 67, 3) := by decide +kernel
theorem dX0_copyFrom_153 : decode cX0_copyFrom 153 = .ok (.aload_n 1, 1) := by decide +kernel
theorem dX0_copyFrom_154 : decode cX0_copyFrom 154 = .ok (.getfield 58, 3) := by decide +kernel
theorem dX0_copyFrom_157 : decode cX0_copyFrom 157 = .ok (.aload_n 0, 1) := by decide +kernel
theorem dX0_copyFrom_158 : decode cX0_copyFrom 158 = .ok (.getfield 58, 3) := by decide +kernel
theorem dX0_copyFrom_161 : decode cX0_copyFrom 161 = .ok (.invokestatic 67, 3) := by decide +kernel
theorem dX0_copyFrom_164 : decode cX0_copyFrom 164 = .ok (.aload_n 1, 1) := by decide +kernel
theorem dX0_copyFrom_165 : decode cX0_copyFrom 165 = .ok (.getfield 61, 3) := by decide +kernel
theorem dX0_copyFrom_168 : decode cX0_copyFrom 168 = .ok (.aload_n 0, 1) := by decide +kernel
theorem dX0_copyFrom_169 : decode cX0_copyFrom 169 = .ok (.getfield 61, 3) := by decide +kernel
theorem dX0_copyFrom_172 : decode cX0_copyFrom 172 = .ok (.invokestatic 67, 3) := by decide +kernel
theorem dX0_copyFrom_175 : decode cX0_copyFrom 175 = .ok (.aload_n 1, 1) := by decide +kernel
theorem dX0_copyFrom_176 : decode cX0_copyFrom 176 = .ok (.getfield 64, 3) := by decide +kernel
theorem dX0_copyFrom_179 : decode cX0_copyFrom 179 = .ok (.aload_n 0, 1) := by decide +kernel
theorem dX0_copyFrom_180 : decode cX0_copyFrom 180 = .ok (.getfield 64, 3) := by decide +kernel
theorem dX0_copyFrom_183 : decode cX0_copyFrom 183 = .ok (.invokestatic 67, 3) := by decide +kernel
theorem dX0_copyFrom_186 : decode cX0_copyFrom 186 = .ok (.return_, 1) := by decide +kernel
theorem dX0_copyRow_0 : decode cX0_copyRow 0 = .ok (.aload_n 0, 1) := by decide +kernel
theorem dX0_copyRow_1 : decode cX0_copyRow 1 = .ok (.iconst 0, 1) := by decide +kernel
theorem dX0_copyRow_2 : decode cX0_copyRow 2 = .ok (.aload_n 1, 1) := by decide +kernel
theorem dX0_copyRow_3 : decode cX0_copyRow 3 = .ok (.iconst 0, 1) := by decide +kernel
theorem dX0_copyRow_4 : decode cX0_copyRow 4 = .ok (.aload_n 0, 1) := by decide +kernel
theorem dX0_copyRow_5 : decode cX0_copyRow 5 = .ok (.arraylength, 1) := by decide +kernel
theorem dX0_copyRow_6 : decode cX0_copyRow 6 = .ok (.aload_n 1, 1) := by decide +kernel
theorem dX0_copyRow_7 : decode cX0_copyRow 7 = .ok (.arraylength, 1) := by decide +kernel
theorem dX0_copyRow_8 : decode cX0_copyRow 8 = .ok (.invokestatic 71, 3) := by decide +kernel
theorem dX0_copyRow_11 : decode cX0_copyRow 11 = .ok (.invokestatic 77, 3) := by decide +kernel
theorem dX0_copyRow_14 : decode cX0_copyRow 14 = .ok (.return_, 1) := by decide +kernel
theorem dX0_hasModule_0 : decode cX0_hasModule 0 = .ok (.iload_n 1, 1) := by decide +kernel
theorem dX0_hasModule_1 : decode cX0_hasModule 1 = .ok (.ifCond .lt 15, 3) := by decide +kernel
theorem dX0_hasModule_4 : decode cX0_hasModule 4 = .ok (.iload_n 1, 1) := by decide +kernel
theorem dX0_hasModule_5 : decode cX0_hasModule 5 = .ok (.aload_n 0, 1) := by decide +kernel
theorem dX0_hasModule_6 : decode cX0_hasModule 6 = .ok (.getfield 9, 3) := by decide +kernel
theorem dX0_hasModule_9 : decode cX0_hasModule 9 = .ok (.if_icmp .ge 7, 3) := by decide +kernel
theorem dX0_hasModule_12 : decode cX0_hasModule 12 = .ok (.iconst 1, 1) := by decide +kernel
theorem dX0_hasModule_13 : decode cX0_hasModule 13 = .ok (.goto 4, 3) := by decide +kernel
theorem dX0_hasModule_16 : decode cX0_hasModule 16 = .ok (.iconst 0, 1) := by decide +kernel
theorem dX0_hasModule_17 : decode cX0_hasModule 17 = .ok (.ireturn, 1) := by decide +kernel
theorem dX0_hasPaper_0 : decode cX0_hasPaper 0 = .ok (.iload_n 1, 1) := by decide +kernel
theorem dX0_hasPaper_1 : decode cX0_hasPaper 1 = .ok (.ifCond .lt 15, 3) := by decide +kernel
theorem dX0_hasPaper_4 : decode cX0_hasPaper 4 = .ok (.iload_n 1, 1) := by decide +kernel
theorem dX0_hasPaper_5 : decode cX0_hasPaper 5 = .ok (.aload_n 0, 1) := by decide +kernel
theorem dX0_hasPaper_6 : decode cX0_hasPaper 6 = .ok (.getfield 15, 3) := by decide +kernel
theorem dX0_hasPaper_9 : decode cX0_hasPaper 9 = .ok (.if_icmp .ge 7, 3) := by decide +kernel
theorem dX0_hasPaper_12 : decode cX0_hasPaper 12 = .ok (.iconst 1, 1) := by decide +kernel
theorem dX0_hasPaper_13 : decode cX0_hasPaper 13 = .ok (.goto 4, 3) := by decide +kernel
theorem dX0_hasPaper_16 : decode cX0_hasPaper 16 = .ok (.iconst 0, 1) := by decide +kernel
theorem dX0_hasPaper_17 : decode cX0_hasPaper 17 = .ok (.ireturn, 1) := by decide +kernel
theorem dX0_hasStudent_0 : decode cX0_hasStudent 0 = .ok (.iload_n 1, 1) := by decide +kernel
theorem dX0_hasStudent_1 : decode cX0_hasStudent 1 = .ok (.ifCond .lt 15, 3) := by decide +kernel
theorem dX0_hasStudent_4 : decode cX0_hasStudent 4 = .ok (.iload_n 1, 1) := by decide +kernel
theorem dX0_hasStudent_5 : decode cX0_hasStudent 5 = .ok (.aload_n 0, 1) := by decide +kernel
theorem dX0_hasStudent_6 : decode cX0_hasStudent 6 = .ok (.getfield 18, 3) := by decide +kernel
theorem dX0_hasStudent_9 : decode cX0_hasStudent 9 = .ok (.if_icmp .ge 7, 3) := by decide +kernel
theorem dX0_hasStudent_12 : decode cX0_hasStudent 12 = .ok (.iconst 1, 1) := by decide +kernel
theorem dX0_hasStudent_13 : decode cX0_hasStudent 13 = .ok (.goto 4, 3) := by decide +kernel
theorem dX0_hasStudent_16 : decode cX0_hasStudent 16 = .ok (.iconst 0, 1) := by decide +kernel
theorem dX0_hasStudent_17 : decode cX0_hasStudent 17 = .ok (.ireturn, 1) := by decide +kernel
theorem dX0_hasFirst_0 : decode cX0_hasFirst 0 = .ok (.aload_n 0, 1) := by decide +kernel
theorem dX0_hasFirst_1 : decode cX0_hasFirst 1 = .ok (.getfield 43, 3) := by decide +kernel
theorem dX0_hasFirst_4 : decode cX0_hasFirst 4 = .ok (.iload_n 1, 1) := by decide +kernel
theorem dX0_hasFirst_5 : decode cX0_hasFirst 5 = .ok (.bipush 8, 2) := by decide +kernel
theorem dX0_hasFirst_7 : decode cX0_hasFirst 7 = .ok (.imul, 1) := by decide +kernel
theorem dX0_hasFirst_8 : decode cX0_hasFirst 8 = .ok (.iload_n 2, 1) := by decide +kernel
theorem dX0_hasFirst_9 : decode cX0_hasFirst 9 = .ok (.iadd, 1) := by decide +kernel
theorem dX0_hasFirst_10 : decode cX0_hasFirst 10 = .ok (.iaload, 1) := by decide +kernel
theorem dX0_hasFirst_11 : decode cX0_hasFirst 11 = .ok (.ifCond .eq 7, 3) := by decide +kernel
theorem dX0_hasFirst_14 : decode cX0_hasFirst 14 = .ok (.iconst 1, 1) := by decide +kernel
theorem dX0_hasFirst_15 : decode cX0_hasFirst 15 = .ok (.goto 4, 3) := by decide +kernel
theorem dX0_hasFirst_18 : decode cX0_hasFirst 18 = .ok (.iconst 0, 1) := by decide +kernel
theorem dX0_hasFirst_19 : decode cX0_hasFirst 19 = .ok (.ireturn, 1) := by decide +kernel
theorem dX0_hasResit_0 : decode cX0_hasResit 0 = .ok (.aload_n 0, 1) := by decide +kernel
theorem dX0_hasResit_1 : decode cX0_hasResit 1 = .ok (.getfield 49, 3) := by decide +kernel
theorem dX0_hasResit_4 : decode cX0_hasResit 4 = .ok (.iload_n 1, 1) := by decide +kernel
theorem dX0_hasResit_5 : decode cX0_hasResit 5 = .ok (.bipush 8, 2) := by decide +kernel
theorem dX0_hasResit_7 : decode cX0_hasResit 7 = .ok (.imul, 1) := by decide +kernel
theorem dX0_hasResit_8 : decode cX0_hasResit 8 = .ok (.iload_n 2, 1) := by decide +kernel
theorem dX0_hasResit_9 : decode cX0_hasResit 9 = .ok (.iadd, 1) := by decide +kernel
theorem dX0_hasResit_10 : decode cX0_hasResit 10 = .ok (.iaload, 1) := by decide +kernel
theorem dX0_hasResit_11 : decode cX0_hasResit 11 = .ok (.iconst (-1), 1) := by decide +kernel
theorem dX0_hasResit_12 : decode cX0_hasResit 12 = .ok (.if_icmp .eq 7, 3) := by decide +kernel
theorem dX0_hasResit_15 : decode cX0_hasResit 15 = .ok (.iconst 1, 1) := by decide +kernel
theorem dX0_hasResit_16 : decode cX0_hasResit 16 = .ok (.goto 4, 3) := by decide +kernel
theorem dX0_hasResit_19 : decode cX0_hasResit 19 = .ok (.iconst 0, 1) := by decide +kernel
theorem dX0_hasResit_20 : decode cX0_hasResit 20 = .ok (.ireturn, 1) := by decide +kernel
theorem dX0_percent_0 : decode cX0_percent 0 = .ok (.bipush 100, 2) := by decide +kernel
theorem dX0_percent_2 : decode cX0_percent 2 = .ok (.iload_n 2, 1) := by decide +kernel
theorem dX0_percent_3 : decode cX0_percent 3 = .ok (.imul, 1) := by decide +kernel
theorem dX0_percent_4 : decode cX0_percent 4 = .ok (.aload_n 0, 1) := by decide +kernel
theorem dX0_percent_5 : decode cX0_percent 5 = .ok (.getfield 37, 3) := by decide +kernel
theorem dX0_percent_8 : decode cX0_percent 8 = .ok (.iload_n 1, 1) := by decide +kernel
theorem dX0_percent_9 : decode cX0_percent 9 = .ok (.iaload, 1) := by decide +kernel
theorem dX0_percent_10 : decode cX0_percent 10 = .ok (.iconst 0, 1) := by decide +kernel
theorem dX0_percent_11 : decode cX0_percent 11 = .ok (.invokestatic 83, 3) := by decide +kernel
theorem dX0_percent_14 : decode cX0_percent 14 = .ok (.ireturn, 1) := by decide +kernel
theorem dX0_rescaled_0 : decode cX0_rescaled 0 = .ok (.aload_n 0, 1) := by decide +kernel
theorem dX0_rescaled_1 : decode cX0_rescaled 1 = .ok (.getfield 58, 3) := by decide +kernel
theorem dX0_rescaled_4 : decode cX0_rescaled 4 = .ok (.iload_n 1, 1) := by decide +kernel
theorem dX0_rescaled_5 : decode cX0_rescaled 5 = .ok (.iaload, 1) := by decide +kernel
theorem dX0_rescaled_6 : decode cX0_rescaled 6 = .ok (.istore_n 3, 1) := by decide +kernel
theorem dX0_rescaled_7 : decode cX0_rescaled 7 = .ok (.iload_n 2, 1) := by decide +kernel
theorem dX0_rescaled_8 : decode cX0_rescaled 8 = .ok (.istore 4, 2) := by decide +kernel
theorem dX0_rescaled_10 : decode cX0_rescaled 10 = .ok (.aload_n 0, 1) := by decide +kernel
theorem dX0_rescaled_11 : decode cX0_rescaled 11 = .ok (.getfield 55, 3) := by decide +kernel
theorem dX0_rescaled_14 : decode cX0_rescaled 14 = .ok (.iload_n 1, 1) := by decide +kernel
theorem dX0_rescaled_15 : decode cX0_rescaled 15 = .ok (.iaload, 1) := by decide +kernel
theorem dX0_rescaled_16 : decode cX0_rescaled 16 = .ok (.tableswitch 80 1 3 #[28, 36, 55], 28) := by decide +kernel
theorem dX0_rescaled_44 : decode cX0_rescaled 44 = .ok (.iload_n 2, 1) := by decide +kernel
theorem dX0_rescaled_45 : decode cX0_rescaled 45 = .ok (.iload_n 3, 1) := by decide +kernel
theorem dX0_rescaled_46 : decode cX0_rescaled 46 = .ok (.iadd, 1) := by decide +kernel
theorem dX0_rescaled_47 : decode cX0_rescaled 47 = .ok (.istore 4, 2) := by decide +kernel
theorem dX0_rescaled_49 : decode cX0_rescaled 49 = .ok (.goto 47, 3) := by decide +kernel
theorem dX0_rescaled_52 : decode cX0_rescaled 52 = .ok (.bipush 50, 2) := by decide +kernel
theorem dX0_rescaled_54 : decode cX0_rescaled 54 = .ok (.iload_n 2, 1) := by decide +kernel
theorem dX0_rescaled_55 : decode cX0_rescaled 55 = .ok (.bipush 50, 2) := by decide +kernel
theorem dX0_rescaled_57 : decode cX0_rescaled 57 = .ok (.isub, 1) := by decide +kernel
theorem dX0_rescaled_58 : decode cX0_rescaled 58 = .ok (.iload_n 3, 1) := by decide +kernel
theorem dX0_rescaled_59 : decode cX0_rescaled 59 = .ok (.imul, 1) := by decide +kernel
theorem dX0_rescaled_60 : decode cX0_rescaled 60 = .ok (.bipush 100, 2) := by decide +kernel
theorem dX0_rescaled_62 : decode cX0_rescaled 62 = .ok (.invokestatic 87, 3) := by decide +kernel
theorem dX0_rescaled_65 : decode cX0_rescaled 65 = .ok (.iadd, 1) := by decide +kernel
theorem dX0_rescaled_66 : decode cX0_rescaled 66 = .ok (.istore 4, 2) := by decide +kernel
theorem dX0_rescaled_68 : decode cX0_rescaled 68 = .ok (.goto 28, 3) := by decide +kernel
theorem dX0_rescaled_71 : decode cX0_rescaled 71 = .ok (.iload_n 2, 1) := by decide +kernel
theorem dX0_rescaled_72 : decode cX0_rescaled 72 = .ok (.iload_n 3, 1) := by decide +kernel
theorem dX0_rescaled_73 : decode cX0_rescaled 73 = .ok (.iadd, 1) := by decide +kernel
theorem dX0_rescaled_74 : decode cX0_rescaled 74 = .ok (.aload_n 0, 1) := by decide +kernel
theorem dX0_rescaled_75 : decode cX0_rescaled 75 = .ok (.getfield 61, 3) := by decide +kernel
theorem dX0_rescaled_78 : decode cX0_rescaled 78 = .ok (.iload_n 1, 1) := by decide +kernel
theorem dX0_rescaled_79 : decode cX0_rescaled 79 = .ok (.iaload, 1) := by decide +kernel
theorem dX0_rescaled_80 : decode cX0_rescaled 80 = .ok (.aload_n 0, 1) := by decide +kernel
theorem dX0_rescaled_81 : decode cX0_rescaled 81 = .ok (.getfield 64, 3) := by decide +kernel
theorem dX0_rescaled_84 : decode cX0_rescaled 84 = .ok (.iload_n 1, 1) := by decide +kernel
theorem dX0_rescaled_85 : decode cX0_rescaled 85 = .ok (.iaload, 1) := by decide +kernel
theorem dX0_rescaled_86 : decode cX0_rescaled 86 = .ok (.iload_n 3, 1) := by decide +kernel
theorem dX0_rescaled_87 : decode cX0_rescaled 87 = .ok (.invokestatic 83, 3) := by decide +kernel
theorem dX0_rescaled_90 : decode cX0_rescaled 90 = .ok (.isub, 1) := by decide +kernel
theorem dX0_rescaled_91 : decode cX0_rescaled 91 = .ok (.istore 4, 2) := by decide +kernel
theorem dX0_rescaled_93 : decode cX0_rescaled 93 = .ok (.goto 3, 3) := by decide +kernel
theorem dX0_rescaled_96 : decode cX0_rescaled 96 = .ok (.iconst 0, 1) := by decide +kernel
theorem dX0_rescaled_97 : decode cX0_rescaled 97 = .ok (.bipush 100, 2) := by decide +kernel
theorem dX0_rescaled_99 : decode cX0_rescaled 99 = .ok (.iload 4, 2) := by decide +kernel
theorem dX0_rescaled_101 : decode cX0_rescaled 101 = .ok (.invokestatic 71, 3) := by decide +kernel
theorem dX0_rescaled_104 : decode cX0_rescaled 104 = .ok (.invokestatic 90, 3) := by decide +kernel
theorem dX0_rescaled_107 : decode cX0_rescaled 107 = .ok (.ireturn, 1) := by decide +kernel
theorem dX0_firstScaled_0 : decode cX0_firstScaled 0 = .ok (.iload_n 1, 1) := by decide +kernel
theorem dX0_firstScaled_1 : decode cX0_firstScaled 1 = .ok (.bipush 8, 2) := by decide +kernel
theorem dX0_firstScaled_3 : decode cX0_firstScaled 3 = .ok (.imul, 1) := by decide +kernel
theorem dX0_firstScaled_4 : decode cX0_firstScaled 4 = .ok (.iload_n 2, 1) := by decide +kernel
theorem dX0_firstScaled_5 : decode cX0_firstScaled 5 = .ok (.iadd, 1) := by decide +kernel
theorem dX0_firstScaled_6 : decode cX0_firstScaled 6 = .ok (.istore_n 3, 1) := by decide +kernel
theorem dX0_firstScaled_7 : decode cX0_firstScaled 7 = .ok (.aload_n 0, 1) := by decide +kernel
theorem dX0_firstScaled_8 : decode cX0_firstScaled 8 = .ok (.getfield 43, 3) := by decide +kernel
theorem dX0_firstScaled_11 : decode cX0_firstScaled 11 = .ok (.iload_n 3, 1) := by decide +kernel
theorem dX0_firstScaled_12 : decode cX0_firstScaled 12 = .ok (.iaload, 1) := by decide +kernel
theorem dX0_firstScaled_13 : decode cX0_firstScaled 13 = .ok (.iconst 1, 1) := by decide +kernel
theorem dX0_firstScaled_14 : decode cX0_firstScaled 14 = .ok (.if_icmp .eq 5, 3) := by decide +kernel
theorem dX0_firstScaled_17 : decode cX0_firstScaled 17 = .ok (.iconst 0, 1) := by decide +kernel
theorem dX0_firstScaled_18 : decode cX0_firstScaled 18 = .ok (.ireturn, 1) := by decide +kernel
theorem dX0_firstScaled_19 : decode cX0_firstScaled 19 = .ok (.aload_n 0, 1) := by decide +kernel
theorem dX0_firstScaled_20 : decode cX0_firstScaled 20 = .ok (.iload_n 2, 1) := by decide +kernel
theorem dX0_firstScaled_21 : decode cX0_firstScaled 21 = .ok (.iconst 3, 1) := by decide +kernel
theorem dX0_firstScaled_22 : decode cX0_firstScaled 22 = .ok (.imul, 1) := by decide +kernel
theorem dX0_firstScaled_23 : decode cX0_firstScaled 23 = .ok (.aload_n 0, 1) := by decide +kernel
theorem dX0_firstScaled_24 : decode cX0_firstScaled 24 = .ok (.getfield 40, 3) := by decide +kernel
theorem dX0_firstScaled_27 : decode cX0_firstScaled 27 = .ok (.iload_n 1, 1) := by decide +kernel
theorem dX0_firstScaled_28 : decode cX0_firstScaled 28 = .ok (.iaload, 1) := by decide +kernel
theorem dX0_firstScaled_29 : decode cX0_firstScaled 29 = .ok (.iadd, 1) := by decide +kernel
theorem dX0_firstScaled_30 : decode cX0_firstScaled 30 = .ok (.aload_n 0, 1) := by decide +kernel
theorem dX0_firstScaled_31 : decode cX0_firstScaled 31 = .ok (.iload_n 2, 1) := by decide +kernel
theorem dX0_firstScaled_32 : decode cX0_firstScaled 32 = .ok (.aload_n 0, 1) := by decide +kernel
theorem dX0_firstScaled_33 : decode cX0_firstScaled 33 = .ok (.getfield 46, 3) := by decide +kernel
theorem dX0_firstScaled_36 : decode cX0_firstScaled 36 = .ok (.iload_n 3, 1) := by decide +kernel
theorem dX0_firstScaled_37 : decode cX0_firstScaled 37 = .ok (.iaload, 1) := by decide +kernel
theorem dX0_firstScaled_38 : decode cX0_firstScaled 38 = .ok (.invokevirtual 93, 3) := by decide +kernel
theorem dX0_firstScaled_41 : decode cX0_firstScaled 41 = .ok (.invokevirtual 96, 3) := by decide +kernel
theorem dX0_firstScaled_44 : decode cX0_firstScaled 44 = .ok (.ireturn, 1) := by decide +kernel
theorem dX0_resitWorth_0 : decode cX0_resitWorth 0 = .ok (.iload_n 1, 1) := by decide +kernel
theorem dX0_resitWorth_1 : decode cX0_resitWorth 1 = .ok (.bipush 8, 2) := by decide +kernel
theorem dX0_resitWorth_3 : decode cX0_resitWorth 3 = .ok (.imul, 1) := by decide +kernel
theorem dX0_resitWorth_4 : decode cX0_resitWorth 4 = .ok (.iload_n 2, 1) := by decide +kernel
theorem dX0_resitWorth_5 : decode cX0_resitWorth 5 = .ok (.iadd, 1) := by decide +kernel
theorem dX0_resitWorth_6 : decode cX0_resitWorth 6 = .ok (.istore_n 3, 1) := by decide +kernel
theorem dX0_resitWorth_7 : decode cX0_resitWorth 7 = .ok (.aload_n 0, 1) := by decide +kernel
theorem dX0_resitWorth_8 : decode cX0_resitWorth 8 = .ok (.iload_n 2, 1) := by decide +kernel
theorem dX0_resitWorth_9 : decode cX0_resitWorth 9 = .ok (.aload_n 0, 1) := by decide +kernel
theorem dX0_resitWorth_10 : decode cX0_resitWorth 10 = .ok (.getfield 49, 3) := by decide +kernel
theorem dX0_resitWorth_13 : decode cX0_resitWorth 13 = .ok (.iload_n 3, 1) := by decide +kernel
theorem dX0_resitWorth_14 : decode cX0_resitWorth 14 = .ok (.iaload, 1) := by decide +kernel
theorem dX0_resitWorth_15 : decode cX0_resitWorth 15 = .ok (.invokevirtual 93, 3) := by decide +kernel
theorem dX0_resitWorth_18 : decode cX0_resitWorth 18 = .ok (.istore 4, 2) := by decide +kernel
theorem dX0_resitWorth_20 : decode cX0_resitWorth 20 = .ok (.aload_n 0, 1) := by decide +kernel
theorem dX0_resitWorth_21 : decode cX0_resitWorth 21 = .ok (.getfield 43, 3) := by decide +kernel
theorem dX0_resitWorth_24 : decode cX0_resitWorth 24 = .ok (.iload_n 3, 1) := by decide +kernel
theorem dX0_resitWorth_25 : decode cX0_resitWorth 25 = .ok (.iaload, 1) := by decide +kernel
theorem dX0_resitWorth_26 : decode cX0_resitWorth 26 = .ok (.iconst 3, 1) := by decide +kernel
theorem dX0_resitWorth_27 : decode cX0_resitWorth 27 = .ok (.if_icmp .ne 8, 3) := by decide +kernel
theorem dX0_resitWorth_30 : decode cX0_resitWorth 30 = .ok (.iload 4, 2) := by decide +kernel
theorem dX0_resitWorth_32 : decode cX0_resitWorth 32 = .ok (.goto 14, 3) := by decide +kernel
theorem dX0_resitWorth_35 : decode cX0_resitWorth 35 = .ok (.iload 4, 2) := by decide +kernel
theorem dX0_resitWorth_37 : decode cX0_resitWorth 37 = .ok (.aload_n 0, 1) := by decide +kernel
theorem dX0_resitWorth_38 : decode cX0_resitWorth 38 = .ok (.getfield 24, 3) := by decide +kernel
theorem dX0_resitWorth_41 : decode cX0_resitWorth 41 = .ok (.iconst 4, 1) := by decide +kernel
theorem dX0_resitWorth_42 : decode cX0_resitWorth 42 = .ok (.iaload, 1) := by decide +kernel
theorem dX0_resitWorth_43 : decode cX0_resitWorth 43 = .ok (.invokestatic 71, 3) := by decide +kernel
theorem dX0_resitWorth_46 : decode cX0_resitWorth 46 = .ok (.ireturn, 1) := by decide +kernel
theorem dX0_finalMark_0 : decode cX0_finalMark 0 = .ok (.aload_n 0, 1) := by decide +kernel
theorem dX0_finalMark_1 : decode cX0_finalMark 1 = .ok (.iload_n 1, 1) := by decide +kernel
theorem dX0_finalMark_2 : decode cX0_finalMark 2 = .ok (.iload_n 2, 1) := by decide +kernel
theorem dX0_finalMark_3 : decode cX0_finalMark 3 = .ok (.invokevirtual 99, 3) := by decide +kernel
theorem dX0_finalMark_6 : decode cX0_finalMark 6 = .ok (.ifCond .ne 5, 3) := by decide +kernel
theorem dX0_finalMark_9 : decode cX0_finalMark 9 = .ok (.iconst (-1), 1) := by decide +kernel
theorem dX0_finalMark_10 : decode cX0_finalMark 10 = .ok (.ireturn, 1) := by decide +kernel
theorem dX0_finalMark_11 : decode cX0_finalMark 11 = .ok (.aload_n 0, 1) := by decide +kernel
theorem dX0_finalMark_12 : decode cX0_finalMark 12 = .ok (.iload_n 1, 1) := by decide +kernel
theorem dX0_finalMark_13 : decode cX0_finalMark 13 = .ok (.iload_n 2, 1) := by decide +kernel
theorem dX0_finalMark_14 : decode cX0_finalMark 14 = .ok (.invokevirtual 103, 3) := by decide +kernel
theorem dX0_finalMark_17 : decode cX0_finalMark 17 = .ok (.istore_n 3, 1) := by decide +kernel
theorem dX0_finalMark_18 : decode cX0_finalMark 18 = .ok (.aload_n 0, 1) := by decide +kernel
theorem dX0_finalMark_19 : decode cX0_finalMark 19 = .ok (.iload_n 1, 1) := by decide +kernel
theorem dX0_finalMark_20 : decode cX0_finalMark 20 = .ok (.iload_n 2, 1) := by decide +kernel
theorem dX0_finalMark_21 : decode cX0_finalMark 21 = .ok (.invokevirtual 106, 3) := by decide +kernel
theorem dX0_finalMark_24 : decode cX0_finalMark 24 = .ok (.ifCond .eq 16, 3) := by decide +kernel
theorem dX0_finalMark_27 : decode cX0_finalMark 27 = .ok (.iload_n 3, 1) := by decide +kernel
theorem dX0_finalMark_28 : decode cX0_finalMark 28 = .ok (.aload_n 0, 1) := by decide +kernel
theorem dX0_finalMark_29 : decode cX0_finalMark 29 = .ok (.iload_n 1, 1) := by decide +kernel
theorem dX0_finalMark_30 : decode cX0_finalMark 30 = .ok (.iload_n 2, 1) := by decide +kernel
theorem dX0_finalMark_31 : decode cX0_finalMark 31 = .ok (.invokevirtual 109, 3) := by decide +kernel
theorem dX0_finalMark_34 : decode cX0_finalMark 34 = .ok (.invokestatic 90, 3) := by decide +kernel
theorem dX0_finalMark_37 : decode cX0_finalMark 37 = .ok (.goto 4, 3) := by decide +kernel
theorem dX0_finalMark_40 : decode cX0_finalMark 40 = .ok (.iload_n 3, 1) := by decide +kernel
theorem dX0_finalMark_41 : decode cX0_finalMark 41 = .ok (.ireturn, 1) := by decide +kernel
theorem dX0_reasonAgainst_0 : decode cX0_reasonAgainst 0 = .ok (.aload_n 0, 1) := by decide +kernel
theorem dX0_reasonAgainst_1 : decode cX0_reasonAgainst 1 = .ok (.iload_n 2, 1) := by decide +kernel
theorem dX0_reasonAgainst_2 : decode cX0_reasonAgainst 2 = .ok (.invokevirtual 112, 3) := by decide +kernel
theorem dX0_reasonAgainst_5 : decode cX0_reasonAgainst 5 = .ok (.ifCond .ne 5, 3) := by decide +kernel
theorem dX0_reasonAgainst_8 : decode cX0_reasonAgainst 8 = .ok (.iconst 1, 1) := by decide +kernel
theorem dX0_reasonAgainst_9 : decode cX0_reasonAgainst 9 = .ok (.ireturn, 1) := by decide +kernel
theorem dX0_reasonAgainst_10 : decode cX0_reasonAgainst 10 = .ok (.aload_n 0, 1) := by decide +kernel
theorem dX0_reasonAgainst_11 : decode cX0_reasonAgainst 11 = .ok (.iload_n 3, 1) := by decide +kernel
theorem dX0_reasonAgainst_12 : decode cX0_reasonAgainst 12 = .ok (.invokevirtual 116, 3) := by decide +kernel
theorem dX0_reasonAgainst_15 : decode cX0_reasonAgainst 15 = .ok (.ifCond .ne 5, 3) := by decide +kernel
theorem dX0_reasonAgainst_18 : decode cX0_reasonAgainst 18 = .ok (.iconst 2, 1) := by decide +kernel
theorem dX0_reasonAgainst_19 : decode cX0_reasonAgainst 19 = .ok (.ireturn, 1) := by decide +kernel
theorem dX0_reasonAgainst_20 : decode cX0_reasonAgainst 20 = .ok (.iload 4, 2) := by decide +kernel
theorem dX0_reasonAgainst_22 : decode cX0_reasonAgainst 22 = .ok (.aload_n 0, 1) := by decide +kernel
theorem dX0_reasonAgainst_23 : decode cX0_reasonAgainst 23 = .ok (.getfield 37, 3) := by decide +kernel
theorem dX0_reasonAgainst_26 : decode cX0_reasonAgainst 26 = .ok (.iload_n 3, 1) := by decide +kernel
theorem dX0_reasonAgainst_27 : decode cX0_reasonAgainst 27 = .ok (.iaload, 1) := by decide +kernel
theorem dX0_reasonAgainst_28 : decode cX0_reasonAgainst 28 = .ok (.if_icmp .le 5, 3) := by decide +kernel
theorem dX0_reasonAgainst_31 : decode cX0_reasonAgainst 31 = .ok (.iconst 3, 1) := by decide +kernel
theorem dX0_reasonAgainst_32 : decode cX0_reasonAgainst 32 = .ok (.ireturn, 1) := by decide +kernel
theorem dX0_reasonAgainst_33 : decode cX0_reasonAgainst 33 = .ok (.iload_n 1, 1) := by decide +kernel
theorem dX0_reasonAgainst_34 : decode cX0_reasonAgainst 34 = .ok (.bipush 114, 2) := by decide +kernel
theorem dX0_reasonAgainst_36 : decode cX0_reasonAgainst 36 = .ok (.if_icmp .eq 9, 3) := by decide +kernel
theorem dX0_reasonAgainst_39 : decode cX0_reasonAgainst 39 = .ok (.iload_n 1, 1) := by decide +kernel
theorem dX0_reasonAgainst_40 : decode cX0_reasonAgainst 40 = .ok (.bipush 120, 2) := by decide +kernel
theorem dX0_reasonAgainst_42 : decode cX0_reasonAgainst 42 = .ok (.if_icmp .ne 7, 3) := by decide +kernel
theorem dX0_reasonAgainst_45 : decode cX0_reasonAgainst 45 = .ok (.iconst 1, 1) := by decide +kernel
theorem dX0_reasonAgainst_46 : decode cX0_reasonAgainst 46 = .ok (.goto 4, 3) := by decide +kernel
theorem dX0_reasonAgainst_49 : decode cX0_reasonAgainst 49 = .ok (.iconst 0, 1) := by decide +kernel
theorem dX0_reasonAgainst_50 : decode cX0_reasonAgainst 50 = .ok (.istore 5, 2) := by decide +kernel
theorem dX0_reasonAgainst_52 : decode cX0_reasonAgainst 52 = .ok (.aload_n 0, 1) := by decide +kernel
theorem dX0_reasonAgainst_53 : decode cX0_reasonAgainst 53 = .ok (.iload_n 2, 1) := by decide +kernel
theorem dX0_reasonAgainst_54 : decode cX0_reasonAgainst 54 = .ok (.iload_n 3, 1) := by decide +kernel
theorem dX0_reasonAgainst_55 : decode cX0_reasonAgainst 55 = .ok (.invokevirtual 99, 3) := by decide +kernel
theorem dX0_reasonAgainst_58 : decode cX0_reasonAgainst 58 = .ok (.iload 5, 2) := by decide +kernel
theorem dX0_reasonAgainst_60 : decode cX0_reasonAgainst 60 = .ok (.if_icmp .eq 14, 3) := by decide +kernel
theorem dX0_reasonAgainst_63 : decode cX0_reasonAgainst 63 = .ok (.iload 5, 2) := by decide +kernel
theorem dX0_reasonAgainst_65 : decode cX0_reasonAgainst 65 = .ok (.ifCond .eq 7, 3) := by decide +kernel
theorem dX0_reasonAgainst_68 : decode cX0_reasonAgainst 68 = .ok (.iconst 5, 1) := by decide +kernel
theorem dX0_reasonAgainst_69 : decode cX0_reasonAgainst 69 = .ok (.goto 4, 3) := by decide +kernel
theorem dX0_reasonAgainst_72 : decode cX0_reasonAgainst 72 = .ok (.iconst 4, 1) := by decide +kernel
theorem dX0_reasonAgainst_73 : decode cX0_reasonAgainst 73 = .ok (.ireturn, 1) := by decide +kernel
theorem dX0_reasonAgainst_74 : decode cX0_reasonAgainst 74 = .ok (.iload_n 1, 1) := by decide +kernel
theorem dX0_reasonAgainst_75 : decode cX0_reasonAgainst 75 = .ok (.bipush 114, 2) := by decide +kernel
theorem dX0_reasonAgainst_77 : decode cX0_reasonAgainst 77 = .ok (.if_icmp .eq 5, 3) := by decide +kernel
theorem dX0_reasonAgainst_80 : decode cX0_reasonAgainst 80 = .ok (.iconst 0, 1) := by decide +kernel
theorem dX0_reasonAgainst_81 : decode cX0_reasonAgainst 81 = .ok (.ireturn, 1) := by decide +kernel
theorem dX0_reasonAgainst_82 : decode cX0_reasonAgainst 82 = .ok (.aload_n 0, 1) := by decide +kernel
theorem dX0_reasonAgainst_83 : decode cX0_reasonAgainst 83 = .ok (.iload_n 2, 1) := by decide +kernel
theorem dX0_reasonAgainst_84 : decode cX0_reasonAgainst 84 = .ok (.iload_n 3, 1) := by decide +kernel
theorem dX0_reasonAgainst_85 : decode cX0_reasonAgainst 85 = .ok (.invokevirtual 106, 3) := by decide +kernel
theorem dX0_reasonAgainst_88 : decode cX0_reasonAgainst 88 = .ok (.ifCond .eq 6, 3) := by decide +kernel
theorem dX0_reasonAgainst_91 : decode cX0_reasonAgainst 91 = .ok (.bipush 6, 2) := by decide +kernel
theorem dX0_reasonAgainst_93 : decode cX0_reasonAgainst 93 = .ok (.ireturn, 1) := by decide +kernel
theorem dX0_reasonAgainst_94 : decode cX0_reasonAgainst 94 = .ok (.aload_n 0, 1) := by decide +kernel
theorem dX0_reasonAgainst_95 : decode cX0_reasonAgainst 95 = .ok (.iload_n 2, 1) := by decide +kernel
theorem dX0_reasonAgainst_96 : decode cX0_reasonAgainst 96 = .ok (.iload_n 3, 1) := by decide +kernel
theorem dX0_reasonAgainst_97 : decode cX0_reasonAgainst 97 = .ok (.invokevirtual 103, 3) := by decide +kernel
theorem dX0_reasonAgainst_100 : decode cX0_reasonAgainst 100 = .ok (.aload_n 0, 1) := by decide +kernel
theorem dX0_reasonAgainst_101 : decode cX0_reasonAgainst 101 = .ok (.getfield 24, 3) := by decide +kernel
theorem dX0_reasonAgainst_104 : decode cX0_reasonAgainst 104 = .ok (.iconst 0, 1) := by decide +kernel
theorem dX0_reasonAgainst_105 : decode cX0_reasonAgainst 105 = .ok (.iaload, 1) := by decide +kernel
theorem dX0_reasonAgainst_106 : decode cX0_reasonAgainst 106 = .ok (.if_icmp .lt 8, 3) := by decide +kernel
theorem dX0_reasonAgainst_109 : decode cX0_reasonAgainst 109 = .ok (.bipush 7, 2) := by decide +kernel
theorem dX0_reasonAgainst_111 : decode cX0_reasonAgainst 111 = .ok (.goto 4, 3) := by decide +kernel
theorem dX0_reasonAgainst_114 : decode cX0_reasonAgainst 114 = .ok (.iconst 0, 1) := by decide +kernel
theorem dX0_reasonAgainst_115 : decode cX0_reasonAgainst 115 = .ok (.ireturn, 1) := by decide +kernel
theorem dX0_aboutReason_0 : decode cX0_aboutReason 0 = .ok (.iload_n 1, 1) := by decide +kernel
theorem dX0_aboutReason_1 : decode cX0_aboutReason 1 = .ok (.lookupswitch 51 #[(1, 35), (3, 37), (7, 44)], 35) := by decide +kernel
theorem dX0_aboutReason_36 : decode cX0_aboutReason 36 = .ok (.iload_n 2, 1) := by decide +kernel
theorem dX0_aboutReason_37 : decode cX0_aboutReason 37 = .ok (.ireturn, 1) := by decide +kernel
theorem dX0_aboutReason_38 : decode cX0_aboutReason 38 = .ok (.aload_n 0, 1) := by decide +kernel
theorem dX0_aboutReason_39 : decode cX0_aboutReason 39 = .ok (.getfield 37, 3) := by decide +kernel
theorem dX0_aboutReason_42 : decode cX0_aboutReason 42 = .ok (.iload_n 3, 1) := by decide +kernel
theorem dX0_aboutReason_43 : decode cX0_aboutReason 43 = .ok (.iaload, 1) := by decide +kernel
theorem dX0_aboutReason_44 : decode cX0_aboutReason 44 = .ok (.ireturn, 1) := by decide +kernel
theorem dX0_aboutReason_45 : decode cX0_aboutReason 45 = .ok (.aload_n 0, 1) := by decide +kernel
theorem dX0_aboutReason_46 : decode cX0_aboutReason 46 = .ok (.iload_n 2, 1) := by decide +kernel
theorem dX0_aboutReason_47 : decode cX0_aboutReason 47 = .ok (.iload_n 3, 1) := by decide +kernel
theorem dX0_aboutReason_48 : decode cX0_aboutReason 48 = .ok (.invokevirtual 103, 3) := by decide +kernel
theorem dX0_aboutReason_51 : decode cX0_aboutReason 51 = .ok (.ireturn, 1) := by decide +kernel
theorem dX0_aboutReason_52 : decode cX0_aboutReason 52 = .ok (.iload_n 3, 1) := by decide +kernel
theorem dX0_aboutReason_53 : decode cX0_aboutReason 53 = .ok (.ireturn, 1) := by decide +kernel
theorem dX0_enter_0 : decode cX0_enter 0 = .ok (.iload_n 1, 1) := by decide +kernel
theorem dX0_enter_1 : decode cX0_enter 1 = .ok (.lookupswitch 100 #[(97, 73), (101, 62), (109, 43), (114, 84)], 43) := by decide +kernel
theorem dX0_enter_44 : decode cX0_enter 44 = .ok (.aload_n 0, 1) := by decide +kernel
theorem dX0_enter_45 : decode cX0_enter 45 = .ok (.iload_n 2, 1) := by decide +kernel
theorem dX0_enter_46 : decode cX0_enter 46 = .ok (.iload_n 3, 1) := by decide +kernel
theorem dX0_enter_47 : decode cX0_enter 47 = .ok (.iconst 1, 1) := by decide +kernel
theorem dX0_enter_48 : decode cX0_enter 48 = .ok (.iload 4, 2) := by decide +kernel
theorem dX0_enter_50 : decode cX0_enter 50 = .ok (.invokevirtual 119, 3) := by decide +kernel
theorem dX0_enter_53 : decode cX0_enter 53 = .ok (.aload_n 0, 1) := by decide +kernel
theorem dX0_enter_54 : decode cX0_enter 54 = .ok (.iload_n 2, 1) := by decide +kernel
theorem dX0_enter_55 : decode cX0_enter 55 = .ok (.iload_n 3, 1) := by decide +kernel
theorem dX0_enter_56 : decode cX0_enter 56 = .ok (.iconst 1, 1) := by decide +kernel
theorem dX0_enter_57 : decode cX0_enter 57 = .ok (.invokevirtual 123, 3) := by decide +kernel
theorem dX0_enter_60 : decode cX0_enter 60 = .ok (.goto 47, 3) := by decide +kernel
theorem dX0_enter_63 : decode cX0_enter 63 = .ok (.aload_n 0, 1) := by decide +kernel
theorem dX0_enter_64 : decode cX0_enter 64 = .ok (.iload_n 2, 1) := by decide +kernel
theorem dX0_enter_65 : decode cX0_enter 65 = .ok (.iload_n 3, 1) := by decide +kernel
theorem dX0_enter_66 : decode cX0_enter 66 = .ok (.iconst 3, 1) := by decide +kernel
theorem dX0_enter_67 : decode cX0_enter 67 = .ok (.iconst 0, 1) := by decide +kernel
theorem dX0_enter_68 : decode cX0_enter 68 = .ok (.invokevirtual 119, 3) := by decide +kernel
theorem dX0_enter_71 : decode cX0_enter 71 = .ok (.goto 36, 3) := by decide +kernel
theorem dX0_enter_74 : decode cX0_enter 74 = .ok (.aload_n 0, 1) := by decide +kernel
theorem dX0_enter_75 : decode cX0_enter 75 = .ok (.iload_n 2, 1) := by decide +kernel
theorem dX0_enter_76 : decode cX0_enter 76 = .ok (.iload_n 3, 1) := by decide +kernel
theorem dX0_enter_77 : decode cX0_enter 77 = .ok (.iconst 2, 1) := by decide +kernel
theorem dX0_enter_78 : decode cX0_enter 78 = .ok (.iconst 0, 1) := by decide +kernel
theorem dX0_enter_79 : decode cX0_enter 79 = .ok (.invokevirtual 119, 3) := by decide +kernel
theorem dX0_enter_82 : decode cX0_enter 82 = .ok (.goto 25, 3) := by decide +kernel
theorem dX0_enter_85 : decode cX0_enter 85 = .ok (.aload_n 0, 1) := by decide +kernel
theorem dX0_enter_86 : decode cX0_enter 86 = .ok (.getfield 49, 3) := by decide +kernel
theorem dX0_enter_89 : decode cX0_enter 89 = .ok (.iload_n 2, 1) := by decide +kernel
theorem dX0_enter_90 : decode cX0_enter 90 = .ok (.bipush 8, 2) := by decide +kernel
theorem dX0_enter_92 : decode cX0_enter 92 = .ok (.imul, 1) := by decide +kernel
theorem dX0_enter_93 : decode cX0_enter 93 = .ok (.iload_n 3, 1) := by decide +kernel
theorem dX0_enter_94 : decode cX0_enter 94 = .ok (.iadd, 1) := by decide +kernel
theorem dX0_enter_95 : decode cX0_enter 95 = .ok (.iload 4, 2) := by decide +kernel
theorem dX0_enter_97 : decode cX0_enter 97 = .ok (.iastore, 1) := by decide +kernel
theorem dX0_enter_98 : decode cX0_enter 98 = .ok (.goto 9, 3) := by decide +kernel
theorem dX0_enter_101 : decode cX0_enter 101 = .ok (.aload_n 0, 1) := by decide +kernel
theorem dX0_enter_102 : decode cX0_enter 102 = .ok (.iload_n 2, 1) := by decide +kernel
theorem dX0_enter_103 : decode cX0_enter 103 = .ok (.iload_n 3, 1) := by decide +kernel
theorem dX0_enter_104 : decode cX0_enter 104 = .ok (.invokevirtual 127, 3) := by decide +kernel
theorem dX0_enter_107 : decode cX0_enter 107 = .ok (.return_, 1) := by decide +kernel
theorem dX0_putFirst_0 : decode cX0_putFirst 0 = .ok (.iload_n 1, 1) := by decide +kernel
theorem dX0_putFirst_1 : decode cX0_putFirst 1 = .ok (.bipush 8, 2) := by decide +kernel
theorem dX0_putFirst_3 : decode cX0_putFirst 3 = .ok (.imul, 1) := by decide +kernel
theorem dX0_putFirst_4 : decode cX0_putFirst 4 = .ok (.iload_n 2, 1) := by decide +kernel
theorem dX0_putFirst_5 : decode cX0_putFirst 5 = .ok (.iadd, 1) := by decide +kernel
theorem dX0_putFirst_6 : decode cX0_putFirst 6 = .ok (.istore 5, 2) := by decide +kernel
theorem dX0_putFirst_8 : decode cX0_putFirst 8 = .ok (.aload_n 0, 1) := by decide +kernel
theorem dX0_putFirst_9 : decode cX0_putFirst 9 = .ok (.getfield 43, 3) := by decide +kernel
theorem dX0_putFirst_12 : decode cX0_putFirst 12 = .ok (.iload 5, 2) := by decide +kernel
theorem dX0_putFirst_14 : decode cX0_putFirst 14 = .ok (.iload_n 3, 1) := by decide +kernel
theorem dX0_putFirst_15 : decode cX0_putFirst 15 = .ok (.iastore, 1) := by decide +kernel
theorem dX0_putFirst_16 : decode cX0_putFirst 16 = .ok (.aload_n 0, 1) := by decide +kernel
theorem dX0_putFirst_17 : decode cX0_putFirst 17 = .ok (.getfield 46, 3) := by decide +kernel
theorem dX0_putFirst_20 : decode cX0_putFirst 20 = .ok (.iload 5, 2) := by decide +kernel
theorem dX0_putFirst_22 : decode cX0_putFirst 22 = .ok (.iload 4, 2) := by decide +kernel
theorem dX0_putFirst_24 : decode cX0_putFirst 24 = .ok (.iastore, 1) := by decide +kernel
theorem dX0_putFirst_25 : decode cX0_putFirst 25 = .ok (.aload_n 0, 1) := by decide +kernel
theorem dX0_putFirst_26 : decode cX0_putFirst 26 = .ok (.getfield 21, 3) := by decide +kernel
theorem dX0_putFirst_29 : decode cX0_putFirst 29 = .ok (.aload_n 0, 1) := by decide +kernel
theorem dX0_putFirst_30 : decode cX0_putFirst 30 = .ok (.getfield 52, 3) := by decide +kernel
theorem dX0_putFirst_33 : decode cX0_putFirst 33 = .ok (.arraylength, 1) := by decide +kernel
theorem dX0_putFirst_34 : decode cX0_putFirst 34 = .ok (.if_icmp .ge 24, 3) := by decide +kernel
theorem dX0_putFirst_37 : decode cX0_putFirst 37 = .ok (.aload_n 0, 1) := by decide +kernel
theorem dX0_putFirst_38 : decode cX0_putFirst 38 = .ok (.getfield 52, 3) := by decide +kernel
theorem dX0_putFirst_41 : decode cX0_putFirst 41 = .ok (.aload_n 0, 1) := by decide +kernel
theorem dX0_putFirst_42 : decode cX0_putFirst 42 = .ok (.getfield 21, 3) := by decide +kernel
theorem dX0_putFirst_45 : decode cX0_putFirst 45 = .ok (.iload 5, 2) := by decide +kernel
theorem dX0_putFirst_47 : decode cX0_putFirst 47 = .ok (.iastore, 1) := by decide +kernel
theorem dX0_putFirst_48 : decode cX0_putFirst 48 = .ok (.aload_n 0, 1) := by decide +kernel
theorem dX0_putFirst_49 : decode cX0_putFirst 49 = .ok (.dup, 1) := by decide +kernel
theorem dX0_putFirst_50 : decode cX0_putFirst 50 = .ok (.getfield 21, 3) := by decide +kernel
theorem dX0_putFirst_53 : decode cX0_putFirst 53 = .ok (.iconst 1, 1) := by decide +kernel
theorem dX0_putFirst_54 : decode cX0_putFirst 54 = .ok (.iadd, 1) := by decide +kernel
theorem dX0_putFirst_55 : decode cX0_putFirst 55 = .ok (.putfield 21, 3) := by decide +kernel
theorem dX0_putFirst_58 : decode cX0_putFirst 58 = .ok (.return_, 1) := by decide +kernel
theorem dX0_takeAttempts_0 : decode cX0_takeAttempts 0 = .ok (.iload_n 1, 1) := by decide +kernel
theorem dX0_takeAttempts_1 : decode cX0_takeAttempts 1 = .ok (.bipush 8, 2) := by decide +kernel
theorem dX0_takeAttempts_3 : decode cX0_takeAttempts 3 = .ok (.imul, 1) := by decide +kernel
theorem dX0_takeAttempts_4 : decode cX0_takeAttempts 4 = .ok (.iload_n 2, 1) := by decide +kernel
theorem dX0_takeAttempts_5 : decode cX0_takeAttempts 5 = .ok (.iadd, 1) := by decide +kernel
theorem dX0_takeAttempts_6 : decode cX0_takeAttempts 6 = .ok (.istore_n 3, 1) := by decide +kernel
theorem dX0_takeAttempts_7 : decode cX0_takeAttempts 7 = .ok (.aload_n 0, 1) := by decide +kernel
theorem dX0_takeAttempts_8 : decode cX0_takeAttempts 8 = .ok (.getfield 43, 3) := by decide +kernel
theorem dX0_takeAttempts_11 : decode cX0_takeAttempts 11 = .ok (.iload_n 3, 1) := by decide +kernel
theorem dX0_takeAttempts_12 : decode cX0_takeAttempts 12 = .ok (.iaload, 1) := by decide +kernel
theorem dX0_takeAttempts_13 : decode cX0_takeAttempts 13 = .ok (.iconst 1, 1) := by decide +kernel
theorem dX0_takeAttempts_14 : decode cX0_takeAttempts 14 = .ok (.if_icmp .ne 10, 3) := by decide +kernel
theorem dX0_takeAttempts_17 : decode cX0_takeAttempts 17 = .ok (.aload_n 0, 1) := by decide +kernel
theorem dX0_takeAttempts_18 : decode cX0_takeAttempts 18 = .ok (.iload_n 1, 1) := by decide +kernel
theorem dX0_takeAttempts_19 : decode cX0_takeAttempts 19 = .ok (.iload_n 2, 1) := by decide +kernel
theorem dX0_takeAttempts_20 : decode cX0_takeAttempts 20 = .ok (.iconst (-1), 1) := by decide +kernel
theorem dX0_takeAttempts_21 : decode cX0_takeAttempts 21 = .ok (.invokevirtual 123, 3) := by decide +kernel
theorem dX0_takeAttempts_24 : decode cX0_takeAttempts 24 = .ok (.aload_n 0, 1) := by decide +kernel
theorem dX0_takeAttempts_25 : decode cX0_takeAttempts 25 = .ok (.getfield 43, 3) := by decide +kernel
theorem dX0_takeAttempts_28 : decode cX0_takeAttempts 28 = .ok (.iload_n 3, 1) := by decide +kernel
theorem dX0_takeAttempts_29 : decode cX0_takeAttempts 29 = .ok (.iconst 0, 1) := by decide +kernel
theorem dX0_takeAttempts_30 : decode cX0_takeAttempts 30 = .ok (.iastore, 1) := by decide +kernel
theorem dX0_takeAttempts_31 : decode cX0_takeAttempts 31 = .ok (.aload_n 0, 1) := by decide +kernel
theorem dX0_takeAttempts_32 : decode cX0_takeAttempts 32 = .ok (.getfield 46, 3) := by decide +kernel
theorem dX0_takeAttempts_35 : decode cX0_takeAttempts 35 = .ok (.iload_n 3, 1) := by decide +kernel
theorem dX0_takeAttempts_36 : decode cX0_takeAttempts 36 = .ok (.iconst 0, 1) := by decide +kernel
theorem dX0_takeAttempts_37 : decode cX0_takeAttempts 37 = .ok (.iastore, 1) := by decide +kernel
theorem dX0_takeAttempts_38 : decode cX0_takeAttempts 38 = .ok (.aload_n 0, 1) := by decide +kernel
theorem dX0_takeAttempts_39 : decode cX0_takeAttempts 39 = .ok (.getfield 49, 3) := by decide +kernel
theorem dX0_takeAttempts_42 : decode cX0_takeAttempts 42 = .ok (.iload_n 3, 1) := by decide +kernel
theorem dX0_takeAttempts_43 : decode cX0_takeAttempts 43 = .ok (.iconst (-1), 1) := by decide +kernel
theorem dX0_takeAttempts_44 : decode cX0_takeAttempts 44 = .ok (.iastore, 1) := by decide +kernel
theorem dX0_takeAttempts_45 : decode cX0_takeAttempts 45 = .ok (.iconst 0, 1) := by decide +kernel
theorem dX0_takeAttempts_46 : decode cX0_takeAttempts 46 = .ok (.istore 4, 2) := by decide +kernel
theorem dX0_takeAttempts_48 : decode cX0_takeAttempts 48 = .ok (.iconst 0, 1) := by decide +kernel
theorem dX0_takeAttempts_49 : decode cX0_takeAttempts 49 = .ok (.istore 5, 2) := by decide +kernel
theorem dX0_takeAttempts_51 : decode cX0_takeAttempts 51 = .ok (.iload 5, 2) := by decide +kernel
theorem dX0_takeAttempts_53 : decode cX0_takeAttempts 53 = .ok (.aload_n 0, 1) := by decide +kernel
theorem dX0_takeAttempts_54 : decode cX0_takeAttempts 54 = .ok (.getfield 21, 3) := by decide +kernel
theorem dX0_takeAttempts_57 : decode cX0_takeAttempts 57 = .ok (.if_icmp .ge 37, 3) := by decide +kernel
theorem dX0_takeAttempts_60 : decode cX0_takeAttempts 60 = .ok (.aload_n 0, 1) := by decide +kernel
theorem dX0_takeAttempts_61 : decode cX0_takeAttempts 61 = .ok (.getfield 52, 3) := by decide +kernel
theorem dX0_takeAttempts_64 : decode cX0_takeAttempts 64 = .ok (.iload 5, 2) := by decide +kernel
theorem dX0_takeAttempts_66 : decode cX0_takeAttempts 66 = .ok (.iaload, 1) := by decide +kernel
theorem dX0_takeAttempts_67 : decode cX0_takeAttempts 67 = .ok (.iload_n 3, 1) := by decide +kernel
theorem dX0_takeAttempts_68 : decode cX0_takeAttempts 68 = .ok (.if_icmp .eq 20, 3) := by decide +kernel
theorem dX0_takeAttempts_71 : decode cX0_takeAttempts 71 = .ok (.aload_n 0, 1) := by decide +kernel
theorem dX0_takeAttempts_72 : decode cX0_takeAttempts 72 = .ok (.getfield 52, 3) := by decide +kernel
theorem dX0_takeAttempts_75 : decode cX0_takeAttempts 75 = .ok (.iload 4, 2) := by decide +kernel
theorem dX0_takeAttempts_77 : decode cX0_takeAttempts 77 = .ok (.aload_n 0, 1) := by decide +kernel
theorem dX0_takeAttempts_78 : decode cX0_takeAttempts 78 = .ok (.getfield 52, 3) := by decide +kernel
theorem dX0_takeAttempts_81 : decode cX0_takeAttempts 81 = .ok (.iload 5, 2) := by decide +kernel
theorem dX0_takeAttempts_83 : decode cX0_takeAttempts 83 = .ok (.iaload, 1) := by decide +kernel
theorem dX0_takeAttempts_84 : decode cX0_takeAttempts 84 = .ok (.iastore, 1) := by decide +kernel
theorem dX0_takeAttempts_85 : decode cX0_takeAttempts 85 = .ok (.iinc 4 1, 3) := by decide +kernel
theorem dX0_takeAttempts_88 : decode cX0_takeAttempts 88 = .ok (.iinc 5 1, 3) := by decide +kernel
theorem dX0_takeAttempts_91 : decode cX0_takeAttempts 91 = .ok (.goto (-40), 3) := by decide +kernel
theorem dX0_takeAttempts_94 : decode cX0_takeAttempts 94 = .ok (.aload_n 0, 1) := by decide +kernel
theorem dX0_takeAttempts_95 : decode cX0_takeAttempts 95 = .ok (.iload 4, 2) := by decide +kernel
theorem dX0_takeAttempts_97 : decode cX0_takeAttempts 97 = .ok (.putfield 21, 3) := by decide +kernel
theorem dX0_takeAttempts_100 : decode cX0_takeAttempts 100 = .ok (.return_, 1) := by decide +kernel
theorem dX0_countRaw_0 : decode cX0_countRaw 0 = .ok (.iload_n 2, 1) := by decide +kernel
theorem dX0_countRaw_1 : decode cX0_countRaw 1 = .ok (.iconst 3, 1) := by decide +kernel
theorem dX0_countRaw_2 : decode cX0_countRaw 2 = .ok (.imul, 1) := by decide +kernel
theorem dX0_countRaw_3 : decode cX0_countRaw 3 = .ok (.aload_n 0, 1) := by decide +kernel
theorem dX0_countRaw_4 : decode cX0_countRaw 4 = .ok (.getfield 40, 3) := by decide +kernel
theorem dX0_countRaw_7 : decode cX0_countRaw 7 = .ok (.iload_n 1, 1) := by decide +kernel
theorem dX0_countRaw_8 : decode cX0_countRaw 8 = .ok (.iaload, 1) := by decide +kernel
theorem dX0_countRaw_9 : decode cX0_countRaw 9 = .ok (.iadd, 1) := by decide +kernel
theorem dX0_countRaw_10 : decode cX0_countRaw 10 = .ok (.istore 4, 2) := by decide +kernel
theorem dX0_countRaw_12 : decode cX0_countRaw 12 = .ok (.aload_n 0, 1) := by decide +kernel
theorem dX0_countRaw_13 : decode cX0_countRaw 13 = .ok (.getfield 61, 3) := by decide +kernel
theorem dX0_countRaw_16 : decode cX0_countRaw 16 = .ok (.iload 4, 2) := by decide +kernel
theorem dX0_countRaw_18 : decode cX0_countRaw 18 = .ok (.dup2, 1) := by decide +kernel
theorem dX0_countRaw_19 : decode cX0_countRaw 19 = .ok (.iaload, 1) := by decide +kernel
theorem dX0_countRaw_20 : decode cX0_countRaw 20 = .ok (.iload_n 3, 1) := by decide +kernel
theorem dX0_countRaw_21 : decode cX0_countRaw 21 = .ok (.aload_n 0, 1) := by decide +kernel
theorem dX0_countRaw_22 : decode cX0_countRaw 22 = .ok (.iload_n 2, 1) := by decide +kernel
theorem dX0_countRaw_23 : decode cX0_countRaw 23 = .ok (.aload_n 0, 1) := by decide +kernel
theorem dX0_countRaw_24 : decode cX0_countRaw 24 = .ok (.getfield 46, 3) := by decide +kernel
theorem dX0_countRaw_27 : decode cX0_countRaw 27 = .ok (.iload_n 1, 1) := by decide +kernel
theorem dX0_countRaw_28 : decode cX0_countRaw 28 = .ok (.bipush 8, 2) := by decide +kernel
theorem dX0_countRaw_30 : decode cX0_countRaw 30 = .ok (.imul, 1) := by decide +kernel
theorem dX0_countRaw_31 : decode cX0_countRaw 31 = .ok (.iload_n 2, 1) := by decide +kernel
theorem dX0_countRaw_32 : decode cX0_countRaw 32 = .ok (.iadd, 1) := by decide +kernel
theorem dX0_countRaw_33 : decode cX0_countRaw 33 = .ok (.iaload, 1) := by decide +kernel
theorem dX0_countRaw_34 : decode cX0_countRaw 34 = .ok (.invokevirtual 93, 3) := by decide +kernel
theorem dX0_countRaw_37 : decode cX0_countRaw 37 = .ok (.imul, 1) := by decide +kernel
theorem dX0_countRaw_38 : decode cX0_countRaw 38 = .ok (.iadd, 1) := by decide +kernel
theorem dX0_countRaw_39 : decode cX0_countRaw 39 = .ok (.iastore, 1) := by decide +kernel
theorem dX0_countRaw_40 : decode cX0_countRaw 40 = .ok (.aload_n 0, 1) := by decide +kernel
theorem dX0_countRaw_41 : decode cX0_countRaw 41 = .ok (.getfield 64, 3) := by decide +kernel
theorem dX0_countRaw_44 : decode cX0_countRaw 44 = .ok (.iload 4, 2) := by decide +kernel
theorem dX0_countRaw_46 : decode cX0_countRaw 46 = .ok (.dup2, 1) := by decide +kernel
theorem dX0_countRaw_47 : decode cX0_countRaw 47 = .ok (.iaload, 1) := by decide +kernel
theorem dX0_countRaw_48 : decode cX0_countRaw 48 = .ok (.iload_n 3, 1) := by decide +kernel
theorem dX0_countRaw_49 : decode cX0_countRaw 49 = .ok (.iadd, 1) := by decide +kernel
theorem dX0_countRaw_50 : decode cX0_countRaw 50 = .ok (.iastore, 1) := by decide +kernel
theorem dX0_countRaw_51 : decode cX0_countRaw 51 = .ok (.return_, 1) := by decide +kernel
theorem dX0_hasRaw_0 : decode cX0_hasRaw 0 = .ok (.aload_n 0, 1) := by decide +kernel
theorem dX0_hasRaw_1 : decode cX0_hasRaw 1 = .ok (.getfield 40, 3) := by decide +kernel
theorem dX0_hasRaw_4 : decode cX0_hasRaw 4 = .ok (.iload_n 1, 1) := by decide +kernel
theorem dX0_hasRaw_5 : decode cX0_hasRaw 5 = .ok (.iaload, 1) := by decide +kernel
theorem dX0_hasRaw_6 : decode cX0_hasRaw 6 = .ok (.iload_n 3, 1) := by decide +kernel
theorem dX0_hasRaw_7 : decode cX0_hasRaw 7 = .ok (.if_icmp .ne 22, 3) := by decide +kernel
theorem dX0_hasRaw_10 : decode cX0_hasRaw 10 = .ok (.aload_n 0, 1) := by decide +kernel
theorem dX0_hasRaw_11 : decode cX0_hasRaw 11 = .ok (.getfield 43, 3) := by decide +kernel
theorem dX0_hasRaw_14 : decode cX0_hasRaw 14 = .ok (.iload_n 1, 1) := by decide +kernel
theorem dX0_hasRaw_15 : decode cX0_hasRaw 15 = .ok (.bipush 8, 2) := by decide +kernel
theorem dX0_hasRaw_17 : decode cX0_hasRaw 17 = .ok (.imul, 1) := by decide +kernel
theorem dX0_hasRaw_18 : decode cX0_hasRaw 18 = .ok (.iload_n 2, 1) := by decide +kernel
theorem dX0_hasRaw_19 : decode cX0_hasRaw 19 = .ok (.iadd, 1) := by decide +kernel
theorem dX0_hasRaw_20 : decode cX0_hasRaw 20 = .ok (.iaload, 1) := by decide +kernel
theorem dX0_hasRaw_21 : decode cX0_hasRaw 21 = .ok (.iconst 1, 1) := by decide +kernel
theorem dX0_hasRaw_22 : decode cX0_hasRaw 22 = .ok (.if_icmp .ne 7, 3) := by decide +kernel
theorem dX0_hasRaw_25 : decode cX0_hasRaw 25 = .ok (.iconst 1, 1) := by decide +kernel
theorem dX0_hasRaw_26 : decode cX0_hasRaw 26 = .ok (.goto 4, 3) := by decide +kernel
theorem dX0_hasRaw_29 : decode cX0_hasRaw 29 = .ok (.iconst 0, 1) := by decide +kernel
theorem dX0_hasRaw_30 : decode cX0_hasRaw 30 = .ok (.ireturn, 1) := by decide +kernel
theorem dX0_scaledSum_0 : decode cX0_scaledSum 0 = .ok (.iconst 0, 1) := by decide +kernel
theorem dX0_scaledSum_1 : decode cX0_scaledSum 1 = .ok (.istore_n 3, 1) := by decide +kernel
theorem dX0_scaledSum_2 : decode cX0_scaledSum 2 = .ok (.iconst 0, 1) := by decide +kernel
theorem dX0_scaledSum_3 : decode cX0_scaledSum 3 = .ok (.istore 4, 2) := by decide +kernel
theorem dX0_scaledSum_5 : decode cX0_scaledSum 5 = .ok (.iload 4, 2) := by decide +kernel
theorem dX0_scaledSum_7 : decode cX0_scaledSum 7 = .ok (.aload_n 0, 1) := by decide +kernel
theorem dX0_scaledSum_8 : decode cX0_scaledSum 8 = .ok (.getfield 18, 3) := by decide +kernel
theorem dX0_scaledSum_11 : decode cX0_scaledSum 11 = .ok (.if_icmp .ge 30, 3) := by decide +kernel
theorem dX0_scaledSum_14 : decode cX0_scaledSum 14 = .ok (.aload_n 0, 1) := by decide +kernel
theorem dX0_scaledSum_15 : decode cX0_scaledSum 15 = .ok (.iload 4, 2) := by decide +kernel
theorem dX0_scaledSum_17 : decode cX0_scaledSum 17 = .ok (.iload_n 1, 1) := by decide +kernel
theorem dX0_scaledSum_18 : decode cX0_scaledSum 18 = .ok (.iload_n 2, 1) := by decide +kernel
theorem dX0_scaledSum_19 : decode cX0_scaledSum 19 = .ok (.invokevirtual 131, 3) := by decide +kernel
theorem dX0_scaledSum_22 : decode cX0_scaledSum 22 = .ok (.ifCond .eq 13, 3) := by decide +kernel
theorem dX0_scaledSum_25 : decode cX0_scaledSum 25 = .ok (.iload_n 3, 1) := by decide +kernel
theorem dX0_scaledSum_26 : decode cX0_scaledSum 26 = .ok (.aload_n 0, 1) := by decide +kernel
theorem dX0_scaledSum_27 : decode cX0_scaledSum 27 = .ok (.iload 4, 2) := by decide +kernel
theorem dX0_scaledSum_29 : decode cX0_scaledSum 29 = .ok (.iload_n 1, 1) := by decide +kernel
theorem dX0_scaledSum_30 : decode cX0_scaledSum 30 = .ok (.invokevirtual 103, 3) := by decide +kernel
theorem dX0_scaledSum_33 : decode cX0_scaledSum 33 = .ok (.iadd, 1) := by decide +kernel
theorem dX0_scaledSum_34 : decode cX0_scaledSum 34 = .ok (.istore_n 3, 1) := by decide +kernel
theorem dX0_scaledSum_35 : decode cX0_scaledSum 35 = .ok (.iinc 4 1, 3) := by decide +kernel
theorem dX0_scaledSum_38 : decode cX0_scaledSum 38 = .ok (.goto (-33), 3) := by decide +kernel
theorem dX0_scaledSum_41 : decode cX0_scaledSum 41 = .ok (.iload_n 3, 1) := by decide +kernel
theorem dX0_scaledSum_42 : decode cX0_scaledSum 42 = .ok (.ireturn, 1) := by decide +kernel
theorem dX0_turnedPairs_0 : decode cX0_turnedPairs 0 = .ok (.iconst 0, 1) := by decide +kernel
theorem dX0_turnedPairs_1 : decode cX0_turnedPairs 1 = .ok (.istore_n 3, 1) := by decide +kernel
theorem dX0_turnedPairs_2 : decode cX0_turnedPairs 2 = .ok (.iconst 0, 1) := by decide +kernel
theorem dX0_turnedPairs_3 : decode cX0_turnedPairs 3 = .ok (.istore 4, 2) := by decide +kernel
theorem dX0_turnedPairs_5 : decode cX0_turnedPairs 5 = .ok (.iload 4, 2) := by decide +kernel
theorem dX0_turnedPairs_7 : decode cX0_turnedPairs 7 = .ok (.aload_n 0, 1) := by decide +kernel
theorem dX0_turnedPairs_8 : decode cX0_turnedPairs 8 = .ok (.getfield 18, 3) := by decide +kernel
theorem dX0_turnedPairs_11 : decode cX0_turnedPairs 11 = .ok (.if_icmp .ge 64, 3) := by decide +kernel
theorem dX0_turnedPairs_14 : decode cX0_turnedPairs 14 = .ok (.iconst 0, 1) := by decide +kernel
theorem dX0_turnedPairs_15 : decode cX0_turnedPairs 15 = .ok (.istore 5, 2) := by decide +kernel
theorem dX0_turnedPairs_17 : decode cX0_turnedPairs 17 = .ok (.iload 5, 2) := by decide +kernel
theorem dX0_turnedPairs_19 : decode cX0_turnedPairs 19 = .ok (.aload_n 0, 1) := by decide +kernel
theorem dX0_turnedPairs_20 : decode cX0_turnedPairs 20 = .ok (.getfield 18, 3) := by decide +kernel
theorem dX0_turnedPairs_23 : decode cX0_turnedPairs 23 = .ok (.if_icmp .ge 46, 3) := by decide +kernel
theorem dX0_turnedPairs_26 : decode cX0_turnedPairs 26 = .ok (.aload_n 0, 1) := by decide +kernel
theorem dX0_turnedPairs_27 : decode cX0_turnedPairs 27 = .ok (.iload 4, 2) := by decide +kernel
theorem dX0_turnedPairs_29 : decode cX0_turnedPairs 29 = .ok (.iload_n 1, 1) := by decide +kernel
theorem dX0_turnedPairs_30 : decode cX0_turnedPairs 30 = .ok (.iload_n 2, 1) := by decide +kernel
theorem dX0_turnedPairs_31 : decode cX0_turnedPairs 31 = .ok (.invokevirtual 131, 3) := by decide +kernel
theorem dX0_turnedPairs_34 : decode cX0_turnedPairs 34 = .ok (.ifCond .eq 29, 3) := by decide +kernel
theorem dX0_turnedPairs_37 : decode cX0_turnedPairs 37 = .ok (.aload_n 0, 1) := by decide +kernel
theorem dX0_turnedPairs_38 : decode cX0_turnedPairs 38 = .ok (.iload 5, 2) := by decide +kernel
theorem dX0_turnedPairs_40 : decode cX0_turnedPairs 40 = .ok (.iload_n 1, 1) := by decide +kernel
theorem dX0_turnedPairs_41 : decode cX0_turnedPairs 41 = .ok (.iload_n 2, 1) := by decide +kernel
theorem dX0_turnedPairs_42 : decode cX0_turnedPairs 42 = .ok (.invokevirtual 131, 3) := by decide +kernel
theorem dX0_turnedPairs_45 : decode cX0_turnedPairs 45 = .ok (.ifCond .eq 18, 3) := by decide +kernel
theorem dX0_turnedPairs_48 : decode cX0_turnedPairs 48 = .ok (.aload_n 0, 1) := by decide +kernel
theorem dX0_turnedPairs_49 : decode cX0_turnedPairs 49 = .ok (.iload 4, 2) := by decide +kernel
theorem dX0_turnedPairs_51 : decode cX0_turnedPairs 51 = .ok (.iload 5, 2) := by decide +kernel
theorem dX0_turnedPairs_53 : decode cX0_turnedPairs 53 = .ok (.iload_n 1, 1) := by decide +kernel
theorem dX0_turnedPairs_54 : decode cX0_turnedPairs 54 = .ok (.invokevirtual 135, 3) := by decide +kernel
theorem dX0_turnedPairs_57 : decode cX0_turnedPairs 57 = .ok (.ifCond .eq 6, 3) := by decide +kernel
theorem dX0_turnedPairs_60 : decode cX0_turnedPairs 60 = .ok (.iinc 3 1, 3) := by decide +kernel
theorem dX0_turnedPairs_63 : decode cX0_turnedPairs 63 = .ok (.iinc 5 1, 3) := by decide +kernel
theorem dX0_turnedPairs_66 : decode cX0_turnedPairs 66 = .ok (.goto (-49), 3) := by decide +kernel
theorem dX0_turnedPairs_69 : decode cX0_turnedPairs 69 = .ok (.iinc 4 1, 3) := by decide +kernel
theorem dX0_turnedPairs_72 : decode cX0_turnedPairs 72 = .ok (.goto (-67), 3) := by decide +kernel
theorem dX0_turnedPairs_75 : decode cX0_turnedPairs 75 = .ok (.iload_n 3, 1) := by decide +kernel
theorem dX0_turnedPairs_76 : decode cX0_turnedPairs 76 = .ok (.ireturn, 1) := by decide +kernel
theorem dX0_isTurned_0 : decode cX0_isTurned 0 = .ok (.aload_n 0, 1) := by decide +kernel
theorem dX0_isTurned_1 : decode cX0_isTurned 1 = .ok (.iload_n 3, 1) := by decide +kernel
theorem dX0_isTurned_2 : decode cX0_isTurned 2 = .ok (.aload_n 0, 1) := by decide +kernel
theorem dX0_isTurned_3 : decode cX0_isTurned 3 = .ok (.getfield 46, 3) := by decide +kernel
theorem dX0_isTurned_6 : decode cX0_isTurned 6 = .ok (.iload_n 1, 1) := by decide +kernel
theorem dX0_isTurned_7 : decode cX0_isTurned 7 = .ok (.bipush 8, 2) := by decide +kernel
theorem dX0_isTurned_9 : decode cX0_isTurned 9 = .ok (.imul, 1) := by decide +kernel
theorem dX0_isTurned_10 : decode cX0_isTurned 10 = .ok (.iload_n 3, 1) := by decide +kernel
theorem dX0_isTurned_11 : decode cX0_isTurned 11 = .ok (.iadd, 1) := by decide +kernel
theorem dX0_isTurned_12 : decode cX0_isTurned 12 = .ok (.iaload, 1) := by decide +kernel
theorem dX0_isTurned_13 : decode cX0_isTurned 13 = .ok (.invokevirtual 93, 3) := by decide +kernel
theorem dX0_isTurned_16 : decode cX0_isTurned 16 = .ok (.istore 4, 2) := by decide +kernel
theorem dX0_isTurned_18 : decode cX0_isTurned 18 = .ok (.aload_n 0, 1) := by decide +kernel
theorem dX0_isTurned_19 : decode cX0_isTurned 19 = .ok (.iload_n 3, 1) := by decide +kernel
theorem dX0_isTurned_20 : decode cX0_isTurned 20 = .ok (.aload_n 0, 1) := by decide +kernel
theorem dX0_isTurned_21 : decode cX0_isTurned 21 = .ok (.getfield 46, 3) := by decide +kernel
theorem dX0_isTurned_24 : decode cX0_isTurned 24 = .ok (.iload_n 2, 1) := by decide +kernel
theorem dX0_isTurned_25 : decode cX0_isTurned 25 = .ok (.bipush 8, 2) := by decide +kernel
theorem dX0_isTurned_27 : decode cX0_isTurned 27 = .ok (.imul, 1) := by decide +kernel
theorem dX0_isTurned_28 : decode cX0_isTurned 28 = .ok (.iload_n 3, 1) := by decide +kernel
theorem dX0_isTurned_29 : decode cX0_isTurned 29 = .ok (.iadd, 1) := by decide +kernel
theorem dX0_isTurned_30 : decode cX0_isTurned 30 = .ok (.iaload, 1) := by decide +kernel
theorem dX0_isTurned_31 : decode cX0_isTurned 31 = .ok (.invokevirtual 93, 3) := by decide +kernel
theorem dX0_isTurned_34 : decode cX0_isTurned 34 = .ok (.istore 5, 2) := by decide +kernel
theorem dX0_isTurned_36 : decode cX0_isTurned 36 = .ok (.iload 4, 2) := by decide +kernel
theorem dX0_isTurned_38 : decode cX0_isTurned 38 = .ok (.iload 5, 2) := by decide +kernel
theorem dX0_isTurned_40 : decode cX0_isTurned 40 = .ok (.if_icmp .le 22, 3) := by decide +kernel
theorem dX0_isTurned_43 : decode cX0_isTurned 43 = .ok (.aload_n 0, 1) := by decide +kernel
theorem dX0_isTurned_44 : decode cX0_isTurned 44 = .ok (.iload_n 1, 1) := by decide +kernel
theorem dX0_isTurned_45 : decode cX0_isTurned 45 = .ok (.iload_n 3, 1) := by decide +kernel
theorem dX0_isTurned_46 : decode cX0_isTurned 46 = .ok (.invokevirtual 103, 3) := by decide +kernel
theorem dX0_isTurned_49 : decode cX0_isTurned 49 = .ok (.aload_n 0, 1) := by decide +kernel
theorem dX0_isTurned_50 : decode cX0_isTurned 50 = .ok (.iload_n 2, 1) := by decide +kernel
theorem dX0_isTurned_51 : decode cX0_isTurned 51 = .ok (.iload_n 3, 1) := by decide +kernel
theorem dX0_isTurned_52 : decode cX0_isTurned 52 = .ok (.invokevirtual 103, 3) := by decide +kernel
theorem dX0_isTurned_55 : decode cX0_isTurned 55 = .ok (.if_icmp .ge 7, 3) := by decide +kernel
theorem dX0_isTurned_58 : decode cX0_isTurned 58 = .ok (.iconst 1, 1) := by decide +kernel
theorem dX0_isTurned_59 : decode cX0_isTurned 59 = .ok (.goto 4, 3) := by decide +kernel
theorem dX0_isTurned_62 : decode cX0_isTurned 62 = .ok (.iconst 0, 1) := by decide +kernel
theorem dX0_isTurned_63 : decode cX0_isTurned 63 = .ok (.ireturn, 1) := by decide +kernel
theorem dX0_differentScaled_0 : decode cX0_differentScaled 0 = .ok (.iconst 0, 1) := by decide +kernel
theorem dX0_differentScaled_1 : decode cX0_differentScaled 1 = .ok (.istore_n 3, 1) := by decide +kernel
theorem dX0_differentScaled_2 : decode cX0_differentScaled 2 = .ok (.iconst 0, 1) := by decide +kernel
theorem dX0_differentScaled_3 : decode cX0_differentScaled 3 = .ok (.istore 4, 2) := by decide +kernel
theorem dX0_differentScaled_5 : decode cX0_differentScaled 5 = .ok (.iload 4, 2) := by decide +kernel
theorem dX0_differentScaled_7 : decode cX0_differentScaled 7 = .ok (.aload_n 0, 1) := by decide +kernel
theorem dX0_differentScaled_8 : decode cX0_differentScaled 8 = .ok (.getfield 18, 3) := by decide +kernel
theorem dX0_differentScaled_11 : decode cX0_differentScaled 11 = .ok (.if_icmp .ge 34, 3) := by decide +kernel
theorem dX0_differentScaled_14 : decode cX0_differentScaled 14 = .ok (.aload_n 0, 1) := by decide +kernel
theorem dX0_differentScaled_15 : decode cX0_differentScaled 15 = .ok (.iload 4, 2) := by decide +kernel
theorem dX0_differentScaled_17 : decode cX0_differentScaled 17 = .ok (.iload_n 1, 1) := by decide +kernel
theorem dX0_differentScaled_18 : decode cX0_differentScaled 18 = .ok (.iload_n 2, 1) := by decide +kernel
theorem dX0_differentScaled_19 : decode cX0_differentScaled 19 = .ok (.invokevirtual 131, 3) := by decide +kernel
theorem dX0_differentScaled_22 : decode cX0_differentScaled 22 = .ok (.ifCond .eq 17, 3) := by decide +kernel
theorem dX0_differentScaled_25 : decode cX0_differentScaled 25 = .ok (.aload_n 0, 1) := by decide +kernel
theorem dX0_differentScaled_26 : decode cX0_differentScaled 26 = .ok (.iload 4, 2) := by decide +kernel
theorem dX0_differentScaled_28 : decode cX0_differentScaled 28 = .ok (.iload_n 1, 1) := by decide +kernel
theorem dX0_differentScaled_29 : decode cX0_differentScaled 29 = .ok (.iload_n 2, 1) := by decide +kernel
theorem dX0_differentScaled_30 : decode cX0_differentScaled 30 = .ok (.invokevirtual 138, 3) := by decide +kernel
theorem dX0_differentScaled_33 : decode cX0_differentScaled 33 = .ok (.ifCond .eq 6, 3) := by decide +kernel
theorem dX0_differentScaled_36 : decode cX0_differentScaled 36 = .ok (.iinc 3 1, 3) := by decide +kernel
theorem dX0_differentScaled_39 : decode cX0_differentScaled 39 = .ok (.iinc 4 1, 3) := by decide +kernel
theorem dX0_differentScaled_42 : decode cX0_differentScaled 42 = .ok (.goto (-37), 3) := by decide +kernel
theorem dX0_differentScaled_45 : decode cX0_differentScaled 45 = .ok (.iload_n 3, 1) := by decide +kernel
theorem dX0_differentScaled_46 : decode cX0_differentScaled 46 = .ok (.ireturn, 1) := by decide +kernel
theorem dX0_isFirstOfItsScaled_0 : decode cX0_isFirstOfItsScaled 0 = .ok (.aload_n 0, 1) := by decide +kernel
theorem dX0_isFirstOfItsScaled_1 : decode cX0_isFirstOfItsScaled 1 = .ok (.iload_n 1, 1) := by decide +kernel
theorem dX0_isFirstOfItsScaled_2 : decode cX0_isFirstOfItsScaled 2 = .ok (.iload_n 2, 1) := by decide +kernel
theorem dX0_isFirstOfItsScaled_3 : decode cX0_isFirstOfItsScaled 3 = .ok (.invokevirtual 103, 3) := by decide +kernel
theorem dX0_isFirstOfItsScaled_6 : decode cX0_isFirstOfItsScaled 6 = .ok (.istore 4, 2) := by decide +kernel
theorem dX0_isFirstOfItsScaled_8 : decode cX0_isFirstOfItsScaled 8 = .ok (.iconst 0, 1) := by decide +kernel
theorem dX0_isFirstOfItsScaled_9 : decode cX0_isFirstOfItsScaled 9 = .ok (.istore 5, 2) := by decide +kernel
theorem dX0_isFirstOfItsScaled_11 : decode cX0_isFirstOfItsScaled 11 = .ok (.iload 5, 2) := by decide +kernel
theorem dX0_isFirstOfItsScaled_13 : decode cX0_isFirstOfItsScaled 13 = .ok (.iload_n 1, 1) := by decide +kernel
theorem dX0_isFirstOfItsScaled_14 : decode cX0_isFirstOfItsScaled 14 = .ok (.if_icmp .ge 34, 3) := by decide +kernel
theorem dX0_isFirstOfItsScaled_17 : decode cX0_isFirstOfItsScaled 17 = .ok (.aload_n 0, 1) := by decide +kernel
theorem dX0_isFirstOfItsScaled_18 : decode cX0_isFirstOfItsScaled 18 = .ok (.iload 5, 2) := by decide +kernel
theorem dX0_isFirstOfItsScaled_20 : decode cX0_isFirstOfItsScaled 20 = .ok (.iload_n 2, 1) := by decide +kernel
theorem dX0_isFirstOfItsScaled_21 : decode cX0_isFirstOfItsScaled 21 = .ok (.iload_n 3, 1) := by decide +kernel
theorem dX0_isFirstOfItsScaled_22 : decode cX0_isFirstOfItsScaled 22 = .ok (.invokevirtual 131, 3) := by decide +kernel
theorem dX0_isFirstOfItsScaled_25 : decode cX0_isFirstOfItsScaled 25 = .ok (.ifCond .eq 17, 3) := by decide +kernel
theorem dX0_isFirstOfItsScaled_28 : decode cX0_isFirstOfItsScaled 28 = .ok (.aload_n 0, 1) := by decide +kernel
theorem dX0_isFirstOfItsScaled_29 : decode cX0_isFirstOfItsScaled 29 = .ok (.iload 5, 2) := by decide +kernel
theorem dX0_isFirstOfItsScaled_31 : decode cX0_isFirstOfItsScaled 31 = .ok (.iload_n 2, 1) := by decide +kernel
theorem dX0_isFirstOfItsScaled_32 : decode cX0_isFirstOfItsScaled 32 = .ok (.invokevirtual 103, 3) := by decide +kernel
theorem dX0_isFirstOfItsScaled_35 : decode cX0_isFirstOfItsScaled 35 = .ok (.iload 4, 2) := by decide +kernel
theorem dX0_isFirstOfItsScaled_37 : decode cX0_isFirstOfItsScaled 37 = .ok (.if_icmp .ne 5, 3) := by decide +kernel
theorem dX0_isFirstOfItsScaled_40 : decode cX0_isFirstOfItsScaled 40 = .ok (.iconst 0, 1) := by decide +kernel
theorem dX0_isFirstOfItsScaled_41 : decode cX0_isFirstOfItsScaled 41 = .ok (.ireturn, 1) := by decide +kernel
theorem dX0_isFirstOfItsScaled_42 : decode cX0_isFirstOfItsScaled 42 = .ok (.iinc 5 1, 3) := by decide +kernel
theorem dX0_isFirstOfItsScaled_45 : decode cX0_isFirstOfItsScaled 45 = .ok (.goto (-34), 3) := by decide +kernel
theorem dX0_isFirstOfItsScaled_48 : decode cX0_isFirstOfItsScaled 48 = .ok (.iconst 1, 1) := by decide +kernel
theorem dX0_isFirstOfItsScaled_49 : decode cX0_isFirstOfItsScaled 49 = .ok (.ireturn, 1) := by decide +kernel
theorem dX0_firstsIn_0 : decode cX0_firstsIn 0 = .ok (.iconst 0, 1) := by decide +kernel
theorem dX0_firstsIn_1 : decode cX0_firstsIn 1 = .ok (.istore_n 2, 1) := by decide +kernel
theorem dX0_firstsIn_2 : decode cX0_firstsIn 2 = .ok (.iconst 0, 1) := by decide +kernel
theorem dX0_firstsIn_3 : decode cX0_firstsIn 3 = .ok (.istore_n 3, 1) := by decide +kernel
theorem dX0_firstsIn_4 : decode cX0_firstsIn 4 = .ok (.iload_n 3, 1) := by decide +kernel
theorem dX0_firstsIn_5 : decode cX0_firstsIn 5 = .ok (.aload_n 0, 1) := by decide +kernel
theorem dX0_firstsIn_6 : decode cX0_firstsIn 6 = .ok (.getfield 18, 3) := by decide +kernel
theorem dX0_firstsIn_9 : decode cX0_firstsIn 9 = .ok (.if_icmp .ge 21, 3) := by decide +kernel
theorem dX0_firstsIn_12 : decode cX0_firstsIn 12 = .ok (.aload_n 0, 1) := by decide +kernel
theorem dX0_firstsIn_13 : decode cX0_firstsIn 13 = .ok (.iload_n 3, 1) := by decide +kernel
theorem dX0_firstsIn_14 : decode cX0_firstsIn 14 = .ok (.iload_n 1, 1) := by decide +kernel
theorem dX0_firstsIn_15 : decode cX0_firstsIn 15 = .ok (.invokevirtual 99, 3) := by decide +kernel
theorem dX0_firstsIn_18 : decode cX0_firstsIn 18 = .ok (.ifCond .eq 6, 3) := by decide +kernel
theorem dX0_firstsIn_21 : decode cX0_firstsIn 21 = .ok (.iinc 2 1, 3) := by decide +kernel
theorem dX0_firstsIn_24 : decode cX0_firstsIn 24 = .ok (.iinc 3 1, 3) := by decide +kernel
theorem dX0_firstsIn_27 : decode cX0_firstsIn 27 = .ok (.goto (-23), 3) := by decide +kernel
theorem dX0_firstsIn_30 : decode cX0_firstsIn 30 = .ok (.iload_n 2, 1) := by decide +kernel
theorem dX0_firstsIn_31 : decode cX0_firstsIn 31 = .ok (.ireturn, 1) := by decide +kernel
theorem dX0_resitsIn_0 : decode cX0_resitsIn 0 = .ok (.iconst 0, 1) := by decide +kernel
theorem dX0_resitsIn_1 : decode cX0_resitsIn 1 = .ok (.istore_n 2, 1) := by decide +kernel
theorem dX0_resitsIn_2 : decode cX0_resitsIn 2 = .ok (.iconst 0, 1) := by decide +kernel
theorem dX0_resitsIn_3 : decode cX0_resitsIn 3 = .ok (.istore_n 3, 1) := by decide +kernel
theorem dX0_resitsIn_4 : decode cX0_resitsIn 4 = .ok (.iload_n 3, 1) := by decide +kernel
theorem dX0_resitsIn_5 : decode cX0_resitsIn 5 = .ok (.aload_n 0, 1) := by decide +kernel
theorem dX0_resitsIn_6 : decode cX0_resitsIn 6 = .ok (.getfield 18, 3) := by decide +kernel
theorem dX0_resitsIn_9 : decode cX0_resitsIn 9 = .ok (.if_icmp .ge 21, 3) := by decide +kernel
theorem dX0_resitsIn_12 : decode cX0_resitsIn 12 = .ok (.aload_n 0, 1) := by decide +kernel
theorem dX0_resitsIn_13 : decode cX0_resitsIn 13 = .ok (.iload_n 3, 1) := by decide +kernel
theorem dX0_resitsIn_14 : decode cX0_resitsIn 14 = .ok (.iload_n 1, 1) := by decide +kernel
theorem dX0_resitsIn_15 : decode cX0_resitsIn 15 = .ok (.invokevirtual 106, 3) := by decide +kernel
theorem dX0_resitsIn_18 : decode cX0_resitsIn 18 = .ok (.ifCond .eq 6, 3) := by decide +kernel
theorem dX0_resitsIn_21 : decode cX0_resitsIn 21 = .ok (.iinc 2 1, 3) := by decide +kernel
theorem dX0_resitsIn_24 : decode cX0_resitsIn 24 = .ok (.iinc 3 1, 3) := by decide +kernel
theorem dX0_resitsIn_27 : decode cX0_resitsIn 27 = .ok (.goto (-23), 3) := by decide +kernel
theorem dX0_resitsIn_30 : decode cX0_resitsIn 30 = .ok (.iload_n 2, 1) := by decide +kernel
theorem dX0_resitsIn_31 : decode cX0_resitsIn 31 = .ok (.ireturn, 1) := by decide +kernel
theorem dX0_firstsOf_0 : decode cX0_firstsOf 0 = .ok (.iconst 0, 1) := by decide +kernel
theorem dX0_firstsOf_1 : decode cX0_firstsOf 1 = .ok (.istore_n 2, 1) := by decide +kernel
theorem dX0_firstsOf_2 : decode cX0_firstsOf 2 = .ok (.iconst 0, 1) := by decide +kernel
theorem dX0_firstsOf_3 : decode cX0_firstsOf 3 = .ok (.istore_n 3, 1) := by decide +kernel
theorem dX0_firstsOf_4 : decode cX0_firstsOf 4 = .ok (.iload_n 3, 1) := by decide +kernel
theorem dX0_firstsOf_5 : decode cX0_firstsOf 5 = .ok (.aload_n 0, 1) := by decide +kernel
theorem dX0_firstsOf_6 : decode cX0_firstsOf 6 = .ok (.getfield 15, 3) := by decide +kernel
theorem dX0_firstsOf_9 : decode cX0_firstsOf 9 = .ok (.if_icmp .ge 21, 3) := by decide +kernel
theorem dX0_firstsOf_12 : decode cX0_firstsOf 12 = .ok (.aload_n 0, 1) := by decide +kernel
theorem dX0_firstsOf_13 : decode cX0_firstsOf 13 = .ok (.iload_n 1, 1) := by decide +kernel
theorem dX0_firstsOf_14 : decode cX0_firstsOf 14 = .ok (.iload_n 3, 1) := by decide +kernel
theorem dX0_firstsOf_15 : decode cX0_firstsOf 15 = .ok (.invokevirtual 99, 3) := by decide +kernel
theorem dX0_firstsOf_18 : decode cX0_firstsOf 18 = .ok (.ifCond .eq 6, 3) := by decide +kernel
theorem dX0_firstsOf_21 : decode cX0_firstsOf 21 = .ok (.iinc 2 1, 3) := by decide +kernel
theorem dX0_firstsOf_24 : decode cX0_firstsOf 24 = .ok (.iinc 3 1, 3) := by decide +kernel
theorem dX0_firstsOf_27 : decode cX0_firstsOf 27 = .ok (.goto (-23), 3) := by decide +kernel
theorem dX0_firstsOf_30 : decode cX0_firstsOf 30 = .ok (.iload_n 2, 1) := by decide +kernel
theorem dX0_firstsOf_31 : decode cX0_firstsOf 31 = .ok (.ireturn, 1) := by decide +kernel
theorem dX0_resitsOf_0 : decode cX0_resitsOf 0 = .ok (.iconst 0, 1) := by decide +kernel
theorem dX0_resitsOf_1 : decode cX0_resitsOf 1 = .ok (.istore_n 2, 1) := by decide +kernel
theorem dX0_resitsOf_2 : decode cX0_resitsOf 2 = .ok (.iconst 0, 1) := by decide +kernel
theorem dX0_resitsOf_3 : decode cX0_resitsOf 3 = .ok (.istore_n 3, 1) := by decide +kernel
theorem dX0_resitsOf_4 : decode cX0_resitsOf 4 = .ok (.iload_n 3, 1) := by decide +kernel
theorem dX0_resitsOf_5 : decode cX0_resitsOf 5 = .ok (.aload_n 0, 1) := by decide +kernel
theorem dX0_resitsOf_6 : decode cX0_resitsOf 6 = .ok (.getfield 15, 3) := by decide +kernel
theorem dX0_resitsOf_9 : decode cX0_resitsOf 9 = .ok (.if_icmp .ge 21, 3) := by decide +kernel
theorem dX0_resitsOf_12 : decode cX0_resitsOf 12 = .ok (.aload_n 0, 1) := by decide +kernel
theorem dX0_resitsOf_13 : decode cX0_resitsOf 13 = .ok (.iload_n 1, 1) := by decide +kernel
theorem dX0_resitsOf_14 : decode cX0_resitsOf 14 = .ok (.iload_n 3, 1) := by decide +kernel
theorem dX0_resitsOf_15 : decode cX0_resitsOf 15 = .ok (.invokevirtual 106, 3) := by decide +kernel
theorem dX0_resitsOf_18 : decode cX0_resitsOf 18 = .ok (.ifCond .eq 6, 3) := by decide +kernel
theorem dX0_resitsOf_21 : decode cX0_resitsOf 21 = .ok (.iinc 2 1, 3) := by decide +kernel
theorem dX0_resitsOf_24 : decode cX0_resitsOf 24 = .ok (.iinc 3 1, 3) := by decide +kernel
theorem dX0_resitsOf_27 : decode cX0_resitsOf 27 = .ok (.goto (-23), 3) := by decide +kernel
theorem dX0_resitsOf_30 : decode cX0_resitsOf 30 = .ok (.iload_n 2, 1) := by decide +kernel
theorem dX0_resitsOf_31 : decode cX0_resitsOf 31 = .ok (.ireturn, 1) := by decide +kernel
theorem dX0_papersOf_0 : decode cX0_papersOf 0 = .ok (.iconst 0, 1) := by decide +kernel
theorem dX0_papersOf_1 : decode cX0_papersOf 1 = .ok (.istore_n 2, 1) := by decide +kernel
theorem dX0_papersOf_2 : decode cX0_papersOf 2 = .ok (.iconst 0, 1) := by decide +kernel
theorem dX0_papersOf_3 : decode cX0_papersOf 3 = .ok (.istore_n 3, 1) := by decide +kernel
theorem dX0_papersOf_4 : decode cX0_papersOf 4 = .ok (.iload_n 3, 1) := by decide +kernel
theorem dX0_papersOf_5 : decode cX0_papersOf 5 = .ok (.aload_n 0, 1) := by decide +kernel
theorem dX0_papersOf_6 : decode cX0_papersOf 6 = .ok (.getfield 15, 3) := by decide +kernel
theorem dX0_papersOf_9 : decode cX0_papersOf 9 = .ok (.if_icmp .ge 22, 3) := by decide +kernel
theorem dX0_papersOf_12 : decode cX0_papersOf 12 = .ok (.aload_n 0, 1) := by decide +kernel
theorem dX0_papersOf_13 : decode cX0_papersOf 13 = .ok (.getfield 31, 3) := by decide +kernel
theorem dX0_papersOf_16 : decode cX0_papersOf 16 = .ok (.iload_n 3, 1) := by decide +kernel
theorem dX0_papersOf_17 : decode cX0_papersOf 17 = .ok (.iaload, 1) := by decide +kernel
theorem dX0_papersOf_18 : decode cX0_papersOf 18 = .ok (.iload_n 1, 1) := by decide +kernel
theorem dX0_papersOf_19 : decode cX0_papersOf 19 = .ok (.if_icmp .ne 6, 3) := by decide +kernel
theorem dX0_papersOf_22 : decode cX0_papersOf 22 = .ok (.iinc 2 1, 3) := by decide +kernel
theorem dX0_papersOf_25 : decode cX0_papersOf 25 = .ok (.iinc 3 1, 3) := by decide +kernel
theorem dX0_papersOf_28 : decode cX0_papersOf 28 = .ok (.goto (-24), 3) := by decide +kernel
theorem dX0_papersOf_31 : decode cX0_papersOf 31 = .ok (.iload_n 2, 1) := by decide +kernel
theorem dX0_papersOf_32 : decode cX0_papersOf 32 = .ok (.ireturn, 1) := by decide +kernel
theorem dX0_resitCount_0 : decode cX0_resitCount 0 = .ok (.iconst 0, 1) := by decide +kernel
theorem dX0_resitCount_1 : decode cX0_resitCount 1 = .ok (.istore_n 1, 1) := by decide +kernel
theorem dX0_resitCount_2 : decode cX0_resitCount 2 = .ok (.iconst 0, 1) := by decide +kernel
theorem dX0_resitCount_3 : decode cX0_resitCount 3 = .ok (.istore_n 2, 1) := by decide +kernel
theorem dX0_resitCount_4 : decode cX0_resitCount 4 = .ok (.iload_n 2, 1) := by decide +kernel
theorem dX0_resitCount_5 : decode cX0_resitCount 5 = .ok (.aload_n 0, 1) := by decide +kernel
theorem dX0_resitCount_6 : decode cX0_resitCount 6 = .ok (.getfield 15, 3) := by decide +kernel
theorem dX0_resitCount_9 : decode cX0_resitCount 9 = .ok (.if_icmp .ge 17, 3) := by decide +kernel
theorem dX0_resitCount_12 : decode cX0_resitCount 12 = .ok (.iload_n 1, 1) := by decide +kernel
theorem dX0_resitCount_13 : decode cX0_resitCount 13 = .ok (.aload_n 0, 1) := by decide +kernel
theorem dX0_resitCount_14 : decode cX0_resitCount 14 = .ok (.iload_n 2, 1) := by decide +kernel
theorem dX0_resitCount_15 : decode cX0_resitCount 15 = .ok (.invokevirtual 141, 3) := by decide +kernel
theorem dX0_resitCount_18 : decode cX0_resitCount 18 = .ok (.iadd, 1) := by decide +kernel
theorem dX0_resitCount_19 : decode cX0_resitCount 19 = .ok (.istore_n 1, 1) := by decide +kernel
theorem dX0_resitCount_20 : decode cX0_resitCount 20 = .ok (.iinc 2 1, 3) := by decide +kernel
theorem dX0_resitCount_23 : decode cX0_resitCount 23 = .ok (.goto (-19), 3) := by decide +kernel
theorem dX0_resitCount_26 : decode cX0_resitCount 26 = .ok (.iload_n 1, 1) := by decide +kernel
theorem dX0_resitCount_27 : decode cX0_resitCount 27 = .ok (.ireturn, 1) := by decide +kernel
theorem dX0_absenceCount_0 : decode cX0_absenceCount 0 = .ok (.iconst 0, 1) := by decide +kernel
theorem dX0_absenceCount_1 : decode cX0_absenceCount 1 = .ok (.istore_n 1, 1) := by decide +kernel
theorem dX0_absenceCount_2 : decode cX0_absenceCount 2 = .ok (.iconst 0, 1) := by decide +kernel
theorem dX0_absenceCount_3 : decode cX0_absenceCount 3 = .ok (.istore_n 2, 1) := by decide +kernel
theorem dX0_absenceCount_4 : decode cX0_absenceCount 4 = .ok (.iload_n 2, 1) := by decide +kernel
theorem dX0_absenceCount_5 : decode cX0_absenceCount 5 = .ok (.aload_n 0, 1) := by decide +kernel
theorem dX0_absenceCount_6 : decode cX0_absenceCount 6 = .ok (.getfield 21, 3) := by decide +kernel
theorem dX0_absenceCount_9 : decode cX0_absenceCount 9 = .ok (.if_icmp .ge 27, 3) := by decide +kernel
theorem dX0_absenceCount_12 : decode cX0_absenceCount 12 = .ok (.aload_n 0, 1) := by decide +kernel
theorem dX0_absenceCount_13 : decode cX0_absenceCount 13 = .ok (.getfield 43, 3) := by decide +kernel
theorem dX0_absenceCount_16 : decode cX0_absenceCount 16 = .ok (.aload_n 0, 1) := by decide +kernel
theorem dX0_absenceCount_17 : decode cX0_absenceCount 17 = .ok (.getfield 52, 3) := by decide +kernel
theorem dX0_absenceCount_20 : decode cX0_absenceCount 20 = .ok (.iload_n 2, 1) := by decide +kernel
theorem dX0_absenceCount_21 : decode cX0_absenceCount 21 = .ok (.iaload, 1) := by decide +kernel
theorem dX0_absenceCount_22 : decode cX0_absenceCount 22 = .ok (.iaload, 1) := by decide +kernel
theorem dX0_absenceCount_23 : decode cX0_absenceCount 23 = .ok (.iconst 1, 1) := by decide +kernel
theorem dX0_absenceCount_24 : decode cX0_absenceCount 24 = .ok (.if_icmp .eq 6, 3) := by decide +kernel
theorem dX0_absenceCount_27 : decode cX0_absenceCount 27 = .ok (.iinc 1 1, 3) := by decide +kernel
theorem dX0_absenceCount_30 : decode cX0_absenceCount 30 = .ok (.iinc 2 1, 3) := by decide +kernel
theorem dX0_absenceCount_33 : decode cX0_absenceCount 33 = .ok (.goto (-29), 3) := by decide +kernel
theorem dX0_absenceCount_36 : decode cX0_absenceCount 36 = .ok (.iload_n 1, 1) := by decide +kernel
theorem dX0_absenceCount_37 : decode cX0_absenceCount 37 = .ok (.ireturn, 1) := by decide +kernel
theorem dX0_markSum_0 : decode cX0_markSum 0 = .ok (.iconst 0, 1) := by decide +kernel
theorem dX0_markSum_1 : decode cX0_markSum 1 = .ok (.istore_n 1, 1) := by decide +kernel
theorem dX0_markSum_2 : decode cX0_markSum 2 = .ok (.iconst 0, 1) := by decide +kernel
theorem dX0_markSum_3 : decode cX0_markSum 3 = .ok (.istore_n 2, 1) := by decide +kernel
theorem dX0_markSum_4 : decode cX0_markSum 4 = .ok (.iload_n 2, 1) := by decide +kernel
theorem dX0_markSum_5 : decode cX0_markSum 5 = .ok (.aload_n 0, 1) := by decide +kernel
theorem dX0_markSum_6 : decode cX0_markSum 6 = .ok (.getfield 21, 3) := by decide +kernel
theorem dX0_markSum_9 : decode cX0_markSum 9 = .ok (.if_icmp .ge 34, 3) := by decide +kernel
theorem dX0_markSum_12 : decode cX0_markSum 12 = .ok (.iload_n 1, 1) := by decide +kernel
theorem dX0_markSum_13 : decode cX0_markSum 13 = .ok (.aload_n 0, 1) := by decide +kernel
theorem dX0_markSum_14 : decode cX0_markSum 14 = .ok (.aload_n 0, 1) := by decide +kernel
theorem dX0_markSum_15 : decode cX0_markSum 15 = .ok (.getfield 52, 3) := by decide +kernel
theorem dX0_markSum_18 : decode cX0_markSum 18 = .ok (.iload_n 2, 1) := by decide +kernel
theorem dX0_markSum_19 : decode cX0_markSum 19 = .ok (.iaload, 1) := by decide +kernel
theorem dX0_markSum_20 : decode cX0_markSum 20 = .ok (.bipush 8, 2) := by decide +kernel
theorem dX0_markSum_22 : decode cX0_markSum 22 = .ok (.idiv, 1) := by decide +kernel
theorem dX0_markSum_23 : decode cX0_markSum 23 = .ok (.aload_n 0, 1) := by decide +kernel
theorem dX0_markSum_24 : decode cX0_markSum 24 = .ok (.getfield 52, 3) := by decide +kernel
theorem dX0_markSum_27 : decode cX0_markSum 27 = .ok (.iload_n 2, 1) := by decide +kernel
theorem dX0_markSum_28 : decode cX0_markSum 28 = .ok (.iaload, 1) := by decide +kernel
theorem dX0_markSum_29 : decode cX0_markSum 29 = .ok (.bipush 8, 2) := by decide +kernel
theorem dX0_markSum_31 : decode cX0_markSum 31 = .ok (.irem, 1) := by decide +kernel
theorem dX0_markSum_32 : decode cX0_markSum 32 = .ok (.invokevirtual 145, 3) := by decide +kernel
theorem dX0_markSum_35 : decode cX0_markSum 35 = .ok (.iadd, 1) := by decide +kernel
theorem dX0_markSum_36 : decode cX0_markSum 36 = .ok (.istore_n 1, 1) := by decide +kernel
theorem dX0_markSum_37 : decode cX0_markSum 37 = .ok (.iinc 2 1, 3) := by decide +kernel
theorem dX0_markSum_40 : decode cX0_markSum 40 = .ok (.goto (-36), 3) := by decide +kernel
theorem dX0_markSum_43 : decode cX0_markSum 43 = .ok (.iload_n 1, 1) := by decide +kernel
theorem dX0_markSum_44 : decode cX0_markSum 44 = .ok (.ireturn, 1) := by decide +kernel
theorem dX0_countingCredits_0 : decode cX0_countingCredits 0 = .ok (.iconst 0, 1) := by decide +kernel
theorem dX0_countingCredits_1 : decode cX0_countingCredits 1 = .ok (.istore_n 1, 1) := by decide +kernel
theorem dX0_countingCredits_2 : decode cX0_countingCredits 2 = .ok (.iconst 0, 1) := by decide +kernel
theorem dX0_countingCredits_3 : decode cX0_countingCredits 3 = .ok (.istore_n 2, 1) := by decide +kernel
theorem dX0_countingCredits_4 : decode cX0_countingCredits 4 = .ok (.iload_n 2, 1) := by decide +kernel
theorem dX0_countingCredits_5 : decode cX0_countingCredits 5 = .ok (.aload_n 0, 1) := by decide +kernel
theorem dX0_countingCredits_6 : decode cX0_countingCredits 6 = .ok (.getfield 9, 3) := by decide +kernel
theorem dX0_countingCredits_9 : decode cX0_countingCredits 9 = .ok (.if_icmp .ge 26, 3) := by decide +kernel
theorem dX0_countingCredits_12 : decode cX0_countingCredits 12 = .ok (.aload_n 0, 1) := by decide +kernel
theorem dX0_countingCredits_13 : decode cX0_countingCredits 13 = .ok (.iload_n 2, 1) := by decide +kernel
theorem dX0_countingCredits_14 : decode cX0_countingCredits 14 = .ok (.invokevirtual 148, 3) := by decide +kernel
theorem dX0_countingCredits_17 : decode cX0_countingCredits 17 = .ok (.ifCond .le 12, 3) := by decide +kernel
theorem dX0_countingCredits_20 : decode cX0_countingCredits 20 = .ok (.iload_n 1, 1) := by decide +kernel
theorem dX0_countingCredits_21 : decode cX0_countingCredits 21 = .ok (.aload_n 0, 1) := by decide +kernel
theorem dX0_countingCredits_22 : decode cX0_countingCredits 22 = .ok (.getfield 28, 3) := by decide +kernel
theorem dX0_countingCredits_25 : decode cX0_countingCredits 25 = .ok (.iload_n 2, 1) := by decide +kernel
theorem dX0_countingCredits_26 : decode cX0_countingCredits 26 = .ok (.iaload, 1) := by decide +kernel
theorem dX0_countingCredits_27 : decode cX0_countingCredits 27 = .ok (.iadd, 1) := by decide +kernel
theorem dX0_countingCredits_28 : decode cX0_countingCredits 28 = .ok (.istore_n 1, 1) := by decide +kernel
theorem dX0_countingCredits_29 : decode cX0_countingCredits 29 = .ok (.iinc 2 1, 3) := by decide +kernel
theorem dX0_countingCredits_32 : decode cX0_countingCredits 32 = .ok (.goto (-28), 3) := by decide +kernel
theorem dX0_countingCredits_35 : decode cX0_countingCredits 35 = .ok (.iload_n 1, 1) := by decide +kernel
theorem dX0_countingCredits_36 : decode cX0_countingCredits 36 = .ok (.ireturn, 1) := by decide +kernel
theorem dX1_init_0 : decode cX1_init 0 = .ok (.aload_n 0, 1) := by decide +kernel
theorem dX1_init_1 : decode cX1_init 1 = .ok (.invokespecial 3, 3) := by decide +kernel
theorem dX1_init_4 : decode cX1_init 4 = .ok (.aload_n 0, 1) := by decide +kernel
theorem dX1_init_5 : decode cX1_init 5 = .ok (.new 9, 3) := by decide +kernel
theorem dX1_init_8 : decode cX1_init 8 = .ok (.dup, 1) := by decide +kernel
theorem dX1_init_9 : decode cX1_init 9 = .ok (.invokespecial 11, 3) := by decide +kernel
theorem dX1_init_12 : decode cX1_init 12 = .ok (.putfield 12, 3) := by decide +kernel
theorem dX1_init_15 : decode cX1_init 15 = .ok (.aload_n 0, 1) := by decide +kernel
theorem dX1_init_16 : decode cX1_init 16 = .ok (.bipush 20, 2) := by decide +kernel
theorem dX1_init_18 : decode cX1_init 18 = .ok (.newarray .char, 2) := by decide +kernel
theorem dX1_init_20 : decode cX1_init 20 = .ok (.putfield 18, 3) := by decide +kernel
theorem dX1_init_23 : decode cX1_init 23 = .ok (.aload_n 0, 1) := by decide +kernel
theorem dX1_init_24 : decode cX1_init 24 = .ok (.bipush 20, 2) := by decide +kernel
theorem dX1_init_26 : decode cX1_init 26 = .ok (.newarray .int, 2) := by decide +kernel
theorem dX1_init_28 : decode cX1_init 28 = .ok (.putfield 22, 3) := by decide +kernel
theorem dX1_init_31 : decode cX1_init 31 = .ok (.aload_n 0, 1) := by decide +kernel
theorem dX1_init_32 : decode cX1_init 32 = .ok (.bipush 20, 2) := by decide +kernel
theorem dX1_init_34 : decode cX1_init 34 = .ok (.newarray .int, 2) := by decide +kernel
theorem dX1_init_36 : decode cX1_init 36 = .ok (.putfield 26, 3) := by decide +kernel
theorem dX1_init_39 : decode cX1_init 39 = .ok (.aload_n 0, 1) := by decide +kernel
theorem dX1_init_40 : decode cX1_init 40 = .ok (.bipush 20, 2) := by decide +kernel
theorem dX1_init_42 : decode cX1_init 42 = .ok (.newarray .int, 2) := by decide +kernel
theorem dX1_init_44 : decode cX1_init 44 = .ok (.putfield 29, 3) := by decide +kernel
theorem dX1_init_47 : decode cX1_init 47 = .ok (.aload_n 0, 1) := by decide +kernel
theorem dX1_init_48 : decode cX1_init 48 = .ok (.iconst 0, 1) := by decide +kernel
theorem dX1_init_49 : decode cX1_init 49 = .ok (.putfield 32, 3) := by decide +kernel
theorem dX1_init_52 : decode cX1_init 52 = .ok (.aload_n 0, 1) := by decide +kernel
theorem dX1_init_53 : decode cX1_init 53 = .ok (.iconst 0, 1) := by decide +kernel
theorem dX1_init_54 : decode cX1_init 54 = .ok (.putfield 36, 3) := by decide +kernel
theorem dX1_init_57 : decode cX1_init 57 = .ok (.return_, 1) := by decide +kernel
theorem dX1_parse_0 : decode cX1_parse 0 = .ok (.aload_n 0, 1) := by decide +kernel
theorem dX1_parse_1 : decode cX1_parse 1 = .ok (.iconst 0, 1) := by decide +kernel
theorem dX1_parse_2 : decode cX1_parse 2 = .ok (.putfield 36, 3) := by decide +kernel
theorem dX1_parse_5 : decode cX1_parse 5 = .ok (.aload_n 0, 1) := by decide +kernel
theorem dX1_parse_6 : decode cX1_parse 6 = .ok (.iconst 0, 1) := by decide +kernel
theorem dX1_parse_7 : decode cX1_parse 7 = .ok (.putfield 32, 3) := by decide +kernel
theorem dX1_parse_10 : decode cX1_parse 10 = .ok (.aload_n 0, 1) := by decide +kernel
theorem dX1_parse_11 : decode cX1_parse 11 = .ok (.getfield 32, 3) := by decide +kernel
theorem dX1_parse_14 : decode cX1_parse 14 = .ok (.bipush 20, 2) := by decide +kernel
theorem dX1_parse_16 : decode cX1_parse 16 = .ok (.if_icmp .ge 37, 3) := by decide +kernel
theorem dX1_parse_19 : decode cX1_parse 19 = .ok (.aload_n 0, 1) := by decide +kernel
theorem dX1_parse_20 : decode cX1_parse 20 = .ok (.invokevirtual 39, 3) := by decide +kernel
theorem dX1_parse_23 : decode cX1_parse 23 = .ok (.ifCond .ne 8, 3) := by decide +kernel
theorem dX1_parse_26 : decode cX1_parse 26 = .ok (.aload_n 0, 1) := by decide +kernel
theorem dX1_parse_27 : decode cX1_parse 27 = .ok (.getfield 36, 3) := by decide +kernel
theorem dX1_parse_30 : decode cX1_parse 30 = .ok (.ireturn, 1) := by decide +kernel
theorem dX1_parse_31 : decode cX1_parse 31 = .ok (.aload_n 0, 1) := by decide +kernel
theorem dX1_parse_32 : decode cX1_parse 32 = .ok (.dup, 1) := by decide +kernel
theorem dX1_parse_33 : decode cX1_parse 33 = .ok (.getfield 32, 3) := by decide +kernel
theorem dX1_parse_36 : decode cX1_parse 36 = .ok (.iconst 1, 1) := by decide +kernel
theorem dX1_parse_37 : decode cX1_parse 37 = .ok (.iadd, 1) := by decide +kernel
theorem dX1_parse_38 : decode cX1_parse 38 = .ok (.putfield 32, 3) := by decide +kernel
theorem dX1_parse_41 : decode cX1_parse 41 = .ok (.aload_n 0, 1) := by decide +kernel
theorem dX1_parse_42 : decode cX1_parse 42 = .ok (.bipush 59, 2) := by decide +kernel
theorem dX1_parse_44 : decode cX1_parse 44 = .ok (.invokevirtual 43, 3) := by decide +kernel
theorem dX1_parse_47 : decode cX1_parse 47 = .ok (.ifCond .ne (-37), 3) := by decide +kernel
theorem dX1_parse_50 : decode cX1_parse 50 = .ok (.goto 3, 3) := by decide +kernel
theorem dX1_parse_53 : decode cX1_parse 53 = .ok (.aload_n 0, 1) := by decide +kernel
theorem dX1_parse_54 : decode cX1_parse 54 = .ok (.getfield 36, 3) := by decide +kernel
theorem dX1_parse_57 : decode cX1_parse 57 = .ok (.aload_n 0, 1) := by decide +kernel
theorem dX1_parse_58 : decode cX1_parse 58 = .ok (.getfield 12, 3) := by decide +kernel
theorem dX1_parse_61 : decode cX1_parse 61 = .ok (.invokevirtual 47, 3) := by decide +kernel
theorem dX1_parse_64 : decode cX1_parse 64 = .ok (.if_icmp .ge 10, 3) := by decide +kernel
theorem dX1_parse_67 : decode cX1_parse 67 = .ok (.aload_n 0, 1) := by decide +kernel
theorem dX1_parse_68 : decode cX1_parse 68 = .ok (.getfield 36, 3) := by decide +kernel
theorem dX1_parse_71 : decode cX1_parse 71 = .ok (.goto 4, 3) := by decide +kernel
theorem dX1_parse_74 : decode cX1_parse 74 = .ok (.iconst (-1), 1) := by decide +kernel
theorem dX1_parse_75 : decode cX1_parse 75 = .ok (.ireturn, 1) := by decide +kernel
theorem dX1_takesEntry_0 : decode cX1_takesEntry 0 = .ok (.aload_n 0, 1) := by decide +kernel
theorem dX1_takesEntry_1 : decode cX1_takesEntry 1 = .ok (.getfield 36, 3) := by decide +kernel
theorem dX1_takesEntry_4 : decode cX1_takesEntry 4 = .ok (.aload_n 0, 1) := by decide +kernel
theorem dX1_takesEntry_5 : decode cX1_takesEntry 5 = .ok (.getfield 12, 3) := by decide +kernel
theorem dX1_takesEntry_8 : decode cX1_takesEntry 8 = .ok (.invokevirtual 47, 3) := by decide +kernel
theorem dX1_takesEntry_11 : decode cX1_takesEntry 11 = .ok (.if_icmp .lt 5, 3) := by decide +kernel
theorem dX1_takesEntry_14 : decode cX1_takesEntry 14 = .ok (.iconst 0, 1) := by decide +kernel
theorem dX1_takesEntry_15 : decode cX1_takesEntry 15 = .ok (.ireturn, 1) := by decide +kernel
theorem dX1_takesEntry_16 : decode cX1_takesEntry 16 = .ok (.aload_n 0, 1) := by decide +kernel
theorem dX1_takesEntry_17 : decode cX1_takesEntry 17 = .ok (.getfield 12, 3) := by decide +kernel
theorem dX1_takesEntry_20 : decode cX1_takesEntry 20 = .ok (.aload_n 0, 1) := by decide +kernel
theorem dX1_takesEntry_21 : decode cX1_takesEntry 21 = .ok (.getfield 36, 3) := by decide +kernel
theorem dX1_takesEntry_24 : decode cX1_takesEntry 24 = .ok (.invokevirtual 51, 3) := by decide +kernel
theorem dX1_takesEntry_27 : decode cX1_takesEntry 27 = .ok (.istore_n 1, 1) := by decide +kernel
theorem dX1_takesEntry_28 : decode cX1_takesEntry 28 = .ok (.ldc 55, 2) := by decide +kernel
theorem dX1_takesEntry_30 : decode cX1_takesEntry 30 = .ok (.iload_n 1, 1) := by decide +kernel
theorem dX1_takesEntry_31 : decode cX1_takesEntry 31 = .ok (.invokevirtual 57, 3) := by decide +kernel
theorem dX1_takesEntry_34 : decode cX1_takesEntry 34 = .ok (.ifCond .ge 5, 3) := by decide +kernel
theorem dX1_takesEntry_37 : decode cX1_takesEntry 37 = .ok (.iconst 0, 1) := by decide +kernel
theorem dX1_takesEntry_38 : decode cX1_takesEntry 38 = .ok (.ireturn, 1) := by decide +kernel
theorem dX1_takesEntry_39 : decode cX1_takesEntry 39 = .ok (.aload_n 0, 1) := by decide +kernel
theorem dX1_takesEntry_40 : decode cX1_takesEntry 40 = .ok (.dup, 1) := by decide +kernel
theorem dX1_takesEntry_41 : decode cX1_takesEntry 41 = .ok (.getfield 36, 3) := by decide +kernel
theorem dX1_takesEntry_44 : decode cX1_takesEntry 44 = .ok (.iconst 1, 1) := by decide +kernel
theorem dX1_takesEntry_45 : decode cX1_takesEntry 45 = .ok (.iadd, 1) := by decide +kernel
theorem dX1_takesEntry_46 : decode cX1_takesEntry 46 = .ok (.putfield 36, 3) := by decide +kernel
theorem dX1_takesEntry_49 : decode cX1_takesEntry 49 = .ok (.aload_n 0, 1) := by decide +kernel
theorem dX1_takesEntry_50 : decode cX1_takesEntry 50 = .ok (.getfield 18, 3) := by decide +kernel
theorem dX1_takesEntry_53 : decode cX1_takesEntry 53 = .ok (.aload_n 0, 1) := by decide +kernel
theorem dX1_takesEntry_54 : decode cX1_takesEntry 54 = .ok (.getfield 32, 3) := by decide +kernel
theorem dX1_takesEntry_57 : decode cX1_takesEntry 57 = .ok (.iload_n 1, 1) := by decide +kernel
theorem dX1_takesEntry_58 : decode cX1_takesEntry 58 = .ok (.castore, 1) := by decide +kernel
theorem dX1_takesEntry_59 : decode cX1_takesEntry 59 = .ok (.aload_n 0, 1) := by decide +kernel
theorem dX1_takesEntry_60 : decode cX1_takesEntry 60 = .ok (.getfield 22, 3) := by decide +kernel
theorem dX1_takesEntry_63 : decode cX1_takesEntry 63 = .ok (.aload_n 0, 1) := by decide +kernel
theorem dX1_takesEntry_64 : decode cX1_takesEntry 64 = .ok (.getfield 32, 3) := by decide +kernel
theorem dX1_takesEntry_67 : decode cX1_takesEntry 67 = .ok (.aload_n 0, 1) := by decide +kernel
theorem dX1_takesEntry_68 : decode cX1_takesEntry 68 = .ok (.invokevirtual 63, 3) := by decide +kernel
theorem dX1_takesEntry_71 : decode cX1_takesEntry 71 = .ok (.iastore, 1) := by decide +kernel
theorem dX1_takesEntry_72 : decode cX1_takesEntry 72 = .ok (.aload_n 0, 1) := by decide +kernel
theorem dX1_takesEntry_73 : decode cX1_takesEntry 73 = .ok (.getfield 22, 3) := by decide +kernel
theorem dX1_takesEntry_76 : decode cX1_takesEntry 76 = .ok (.aload_n 0, 1) := by decide +kernel
theorem dX1_takesEntry_77 : decode cX1_takesEntry 77 = .ok (.getfield 32, 3) := by decide +kernel
theorem dX1_takesEntry_80 : decode cX1_takesEntry 80 = .ok (.iaload, 1) := by decide +kernel
theorem dX1_takesEntry_81 : decode cX1_takesEntry 81 = .ok (.iconst (-1), 1) := by decide +kernel
theorem dX1_takesEntry_82 : decode cX1_takesEntry 82 = .ok (.if_icmp .eq 12, 3) := by decide +kernel
theorem dX1_takesEntry_85 : decode cX1_takesEntry 85 = .ok (.aload_n 0, 1) := by decide +kernel
theorem dX1_takesEntry_86 : decode cX1_takesEntry 86 = .ok (.bipush 46, 2) := by decide +kernel
theorem dX1_takesEntry_88 : decode cX1_takesEntry 88 = .ok (.invokevirtual 43, 3) := by decide +kernel
theorem dX1_takesEntry_91 : decode cX1_takesEntry 91 = .ok (.ifCond .ne 5, 3) := by decide +kernel
theorem dX1_takesEntry_94 : decode cX1_takesEntry 94 = .ok (.iconst 0, 1) := by decide +kernel
theorem dX1_takesEntry_95 : decode cX1_takesEntry 95 = .ok (.ireturn, 1) := by decide +kernel
theorem dX1_takesEntry_96 : decode cX1_takesEntry 96 = .ok (.aload_n 0, 1) := by decide +kernel
theorem dX1_takesEntry_97 : decode cX1_takesEntry 97 = .ok (.getfield 26, 3) := by decide +kernel
theorem dX1_takesEntry_100 : decode cX1_takesEntry 100 = .ok (.aload_n 0, 1) := by decide +kernel
theorem dX1_takesEntry_101 : decode cX1_takesEntry 101 = .ok (.getfield 32, 3) := by decide +kernel
theorem dX1_takesEntry_104 : decode cX1_takesEntry 104 = .ok (.aload_n 0, 1) := by decide +kernel
theorem dX1_takesEntry_105 : decode cX1_takesEntry 105 = .ok (.invokevirtual 63, 3) := by decide +kernel
theorem dX1_takesEntry_108 : decode cX1_takesEntry 108 = .ok (.iastore, 1) := by decide +kernel
theorem dX1_takesEntry_109 : decode cX1_takesEntry 109 = .ok (.aload_n 0, 1) := by decide +kernel
theorem dX1_takesEntry_110 : decode cX1_takesEntry 110 = .ok (.getfield 26, 3) := by decide +kernel
theorem dX1_takesEntry_113 : decode cX1_takesEntry 113 = .ok (.aload_n 0, 1) := by decide +kernel
theorem dX1_takesEntry_114 : decode cX1_takesEntry 114 = .ok (.getfield 32, 3) := by decide +kernel
theorem dX1_takesEntry_117 : decode cX1_takesEntry 117 = .ok (.iaload, 1) := by decide +kernel
theorem dX1_takesEntry_118 : decode cX1_takesEntry 118 = .ok (.iconst (-1), 1) := by decide +kernel
theorem dX1_takesEntry_119 : decode cX1_takesEntry 119 = .ok (.if_icmp .ne 5, 3) := by decide +kernel
theorem dX1_takesEntry_122 : decode cX1_takesEntry 122 = .ok (.iconst 0, 1) := by decide +kernel
theorem dX1_takesEntry_123 : decode cX1_takesEntry 123 = .ok (.ireturn, 1) := by decide +kernel
theorem dX1_takesEntry_124 : decode cX1_takesEntry 124 = .ok (.aload_n 0, 1) := by decide +kernel
theorem dX1_takesEntry_125 : decode cX1_takesEntry 125 = .ok (.iload_n 1, 1) := by decide +kernel
theorem dX1_takesEntry_126 : decode cX1_takesEntry 126 = .ok (.bipush 109, 2) := by decide +kernel
theorem dX1_takesEntry_128 : decode cX1_takesEntry 128 = .ok (.if_icmp .eq 9, 3) := by decide +kernel
theorem dX1_takesEntry_131 : decode cX1_takesEntry 131 = .ok (.iload_n 1, 1) := by decide +kernel
theorem dX1_takesEntry_132 : decode cX1_takesEntry 132 = .ok (.bipush 114, 2) := by decide +kernel
theorem dX1_takesEntry_134 : decode cX1_takesEntry 134 = .ok (.if_icmp .ne 7, 3) := by decide +kernel
theorem dX1_takesEntry_137 : decode cX1_takesEntry 137 = .ok (.iconst 1, 1) := by decide +kernel
theorem dX1_takesEntry_138 : decode cX1_takesEntry 138 = .ok (.goto 4, 3) := by decide +kernel
theorem dX1_takesEntry_141 : decode cX1_takesEntry 141 = .ok (.iconst 0, 1) := by decide +kernel
theorem dX1_takesEntry_142 : decode cX1_takesEntry 142 = .ok (.invokevirtual 66, 3) := by decide +kernel
theorem dX1_takesEntry_145 : decode cX1_takesEntry 145 = .ok (.ireturn, 1) := by decide +kernel
theorem dX1_takesMark_0 : decode cX1_takesMark 0 = .ok (.aload_n 0, 1) := by decide +kernel
theorem dX1_takesMark_1 : decode cX1_takesMark 1 = .ok (.getfield 29, 3) := by decide +kernel
theorem dX1_takesMark_4 : decode cX1_takesMark 4 = .ok (.aload_n 0, 1) := by decide +kernel
theorem dX1_takesMark_5 : decode cX1_takesMark 5 = .ok (.getfield 32, 3) := by decide +kernel
theorem dX1_takesMark_8 : decode cX1_takesMark 8 = .ok (.iconst 0, 1) := by decide +kernel
theorem dX1_takesMark_9 : decode cX1_takesMark 9 = .ok (.iastore, 1) := by decide +kernel
theorem dX1_takesMark_10 : decode cX1_takesMark 10 = .ok (.iload_n 1, 1) := by decide +kernel
theorem dX1_takesMark_11 : decode cX1_takesMark 11 = .ok (.ifCond .ne 5, 3) := by decide +kernel
theorem dX1_takesMark_14 : decode cX1_takesMark 14 = .ok (.iconst 1, 1) := by decide +kernel
theorem dX1_takesMark_15 : decode cX1_takesMark 15 = .ok (.ireturn, 1) := by decide +kernel
theorem dX1_takesMark_16 : decode cX1_takesMark 16 = .ok (.aload_n 0, 1) := by decide +kernel
theorem dX1_takesMark_17 : decode cX1_takesMark 17 = .ok (.bipush 61, 2) := by decide +kernel
theorem dX1_takesMark_19 : decode cX1_takesMark 19 = .ok (.invokevirtual 43, 3) := by decide +kernel
theorem dX1_takesMark_22 : decode cX1_takesMark 22 = .ok (.ifCond .ne 5, 3) := by decide +kernel
theorem dX1_takesMark_25 : decode cX1_takesMark 25 = .ok (.iconst 0, 1) := by decide +kernel
theorem dX1_takesMark_26 : decode cX1_takesMark 26 = .ok (.ireturn, 1) := by decide +kernel
theorem dX1_takesMark_27 : decode cX1_takesMark 27 = .ok (.aload_n 0, 1) := by decide +kernel
theorem dX1_takesMark_28 : decode cX1_takesMark 28 = .ok (.getfield 29, 3) := by decide +kernel
theorem dX1_takesMark_31 : decode cX1_takesMark 31 = .ok (.aload_n 0, 1) := by decide +kernel
theorem dX1_takesMark_32 : decode cX1_takesMark 32 = .ok (.getfield 32, 3) := by decide +kernel
theorem dX1_takesMark_35 : decode cX1_takesMark 35 = .ok (.aload_n 0, 1) := by decide +kernel
theorem dX1_takesMark_36 : decode cX1_takesMark 36 = .ok (.invokevirtual 63, 3) := by decide +kernel
theorem dX1_takesMark_39 : decode cX1_takesMark 39 = .ok (.iastore, 1) := by decide +kernel
theorem dX1_takesMark_40 : decode cX1_takesMark 40 = .ok (.aload_n 0, 1) := by decide +kernel
theorem dX1_takesMark_41 : decode cX1_takesMark 41 = .ok (.getfield 29, 3) := by decide +kernel
theorem dX1_takesMark_44 : decode cX1_takesMark 44 = .ok (.aload_n 0, 1) := by decide +kernel
theorem dX1_takesMark_45 : decode cX1_takesMark 45 = .ok (.getfield 32, 3) := by decide +kernel
theorem dX1_takesMark_48 : decode cX1_takesMark 48 = .ok (.iaload, 1) := by decide +kernel
theorem dX1_takesMark_49 : decode cX1_takesMark 49 = .ok (.iconst (-1), 1) := by decide +kernel
theorem dX1_takesMark_50 : decode cX1_takesMark 50 = .ok (.if_icmp .eq 7, 3) := by decide +kernel
theorem dX1_takesMark_53 : decode cX1_takesMark 53 = .ok (.iconst 1, 1) := by decide +kernel
theorem dX1_takesMark_54 : decode cX1_takesMark 54 = .ok (.goto 4, 3) := by decide +kernel
theorem dX1_takesMark_57 : decode cX1_takesMark 57 = .ok (.iconst 0, 1) := by decide +kernel
theorem dX1_takesMark_58 : decode cX1_takesMark 58 = .ok (.ireturn, 1) := by decide +kernel
theorem dX1_takes_0 : decode cX1_takes 0 = .ok (.aload_n 0, 1) := by decide +kernel
theorem dX1_takes_1 : decode cX1_takes 1 = .ok (.getfield 36, 3) := by decide +kernel
theorem dX1_takes_4 : decode cX1_takes 4 = .ok (.aload_n 0, 1) := by decide +kernel
theorem dX1_takes_5 : decode cX1_takes 5 = .ok (.getfield 12, 3) := by decide +kernel
theorem dX1_takes_8 : decode cX1_takes 8 = .ok (.invokevirtual 47, 3) := by decide +kernel
theorem dX1_takes_11 : decode cX1_takes 11 = .ok (.if_icmp .ge 18, 3) := by decide +kernel
theorem dX1_takes_14 : decode cX1_takes 14 = .ok (.aload_n 0, 1) := by decide +kernel
theorem dX1_takes_15 : decode cX1_takes 15 = .ok (.getfield 12, 3) := by decide +kernel
theorem dX1_takes_18 : decode cX1_takes 18 = .ok (.aload_n 0, 1) := by decide +kernel
theorem dX1_takes_19 : decode cX1_takes 19 = .ok (.getfield 36, 3) := by decide +kernel
theorem dX1_takes_22 : decode cX1_takes 22 = .ok (.invokevirtual 51, 3) := by decide +kernel
theorem dX1_takes_25 : decode cX1_takes 25 = .ok (.iload_n 1, 1) := by decide +kernel
theorem dX1_takes_26 : decode cX1_takes 26 = .ok (.if_icmp .eq 5, 3) := by decide +kernel
theorem dX1_takes_29 : decode cX1_takes 29 = .ok (.iconst 0, 1) := by decide +kernel
theorem dX1_takes_30 : decode cX1_takes 30 = .ok (.ireturn, 1) := by decide +kernel
theorem dX1_takes_31 : decode cX1_takes 31 = .ok (.aload_n 0, 1) := by decide +kernel
theorem dX1_takes_32 : decode cX1_takes 32 = .ok (.dup, 1) := by decide +kernel
theorem dX1_takes_33 : decode cX1_takes 33 = .ok (.getfield 36, 3) := by decide +kernel
theorem dX1_takes_36 : decode cX1_takes 36 = .ok (.iconst 1, 1) := by decide +kernel
theorem dX1_takes_37 : decode cX1_takes 37 = .ok (.iadd, 1) := by decide +kernel
theorem dX1_takes_38 : decode cX1_takes 38 = .ok (.putfield 36, 3) := by decide +kernel
theorem dX1_takes_41 : decode cX1_takes 41 = .ok (.iconst 1, 1) := by decide +kernel
theorem dX1_takes_42 : decode cX1_takes 42 = .ok (.ireturn, 1) := by decide +kernel
theorem dX1_takeNumber_0 : decode cX1_takeNumber 0 = .ok (.iconst 0, 1) := by decide +kernel
theorem dX1_takeNumber_1 : decode cX1_takeNumber 1 = .ok (.istore_n 1, 1) := by decide +kernel
theorem dX1_takeNumber_2 : decode cX1_takeNumber 2 = .ok (.iconst 0, 1) := by decide +kernel
theorem dX1_takeNumber_3 : decode cX1_takeNumber 3 = .ok (.istore_n 2, 1) := by decide +kernel
theorem dX1_takeNumber_4 : decode cX1_takeNumber 4 = .ok (.iload_n 2, 1) := by decide +kernel
theorem dX1_takeNumber_5 : decode cX1_takeNumber 5 = .ok (.iconst 3, 1) := by decide +kernel
theorem dX1_takeNumber_6 : decode cX1_takeNumber 6 = .ok (.if_icmp .ge 70, 3) := by decide +kernel
theorem dX1_takeNumber_9 : decode cX1_takeNumber 9 = .ok (.aload_n 0, 1) := by decide +kernel
theorem dX1_takeNumber_10 : decode cX1_takeNumber 10 = .ok (.getfield 36, 3) := by decide +kernel
theorem dX1_takeNumber_13 : decode cX1_takeNumber 13 = .ok (.aload_n 0, 1) := by decide +kernel
theorem dX1_takeNumber_14 : decode cX1_takeNumber 14 = .ok (.getfield 12, 3) := by decide +kernel
theorem dX1_takeNumber_17 : decode cX1_takeNumber 17 = .ok (.invokevirtual 47, 3) := by decide +kernel
theorem dX1_takeNumber_20 : decode cX1_takeNumber 20 = .ok (.if_icmp .ge 56, 3) := by decide +kernel
theorem dX1_takeNumber_23 : decode cX1_takeNumber 23 = .ok (.aload_n 0, 1) := by decide +kernel
theorem dX1_takeNumber_24 : decode cX1_takeNumber 24 = .ok (.getfield 12, 3) := by decide +kernel
theorem dX1_takeNumber_27 : decode cX1_takeNumber 27 = .ok (.aload_n 0, 1) := by decide +kernel
theorem dX1_takeNumber_28 : decode cX1_takeNumber 28 = .ok (.getfield 36, 3) := by decide +kernel
theorem dX1_takeNumber_31 : decode cX1_takeNumber 31 = .ok (.invokevirtual 51, 3) := by decide +kernel
theorem dX1_takeNumber_34 : decode cX1_takeNumber 34 = .ok (.invokestatic 70, 3) := by decide +kernel
theorem dX1_takeNumber_37 : decode cX1_takeNumber 37 = .ok (.ifCond .eq 39, 3) := by decide +kernel
theorem dX1_takeNumber_40 : decode cX1_takeNumber 40 = .ok (.bipush 10, 2) := by decide +kernel
theorem dX1_takeNumber_42 : decode cX1_takeNumber 42 = .ok (.iload_n 1, 1) := by decide +kernel
theorem dX1_takeNumber_43 : decode cX1_takeNumber 43 = .ok (.imul, 1) := by decide +kernel
theorem dX1_takeNumber_44 : decode cX1_takeNumber 44 = .ok (.aload_n 0, 1) := by decide +kernel
theorem dX1_takeNumber_45 : decode cX1_takeNumber 45 = .ok (.getfield 12, 3) := by decide +kernel
theorem dX1_takeNumber_48 : decode cX1_takeNumber 48 = .ok (.aload_n 0, 1) := by decide +kernel
theorem dX1_takeNumber_49 : decode cX1_takeNumber 49 = .ok (.getfield 36, 3) := by decide +kernel
theorem dX1_takeNumber_52 : decode cX1_takeNumber 52 = .ok (.invokevirtual 51, 3) := by decide +kernel
theorem dX1_takeNumber_55 : decode cX1_takeNumber 55 = .ok (.iadd, 1) := by decide +kernel
theorem dX1_takeNumber_56 : decode cX1_takeNumber 56 = .ok (.bipush 48, 2) := by decide +kernel
theorem dX1_takeNumber_58 : decode cX1_takeNumber 58 = .ok (.isub, 1) := by decide +kernel
theorem dX1_takeNumber_59 : decode cX1_takeNumber 59 = .ok (.istore_n 1, 1) := by decide +kernel
theorem dX1_takeNumber_60 : decode cX1_takeNumber 60 = .ok (.aload_n 0, 1) := by decide +kernel
theorem dX1_takeNumber_61 : decode cX1_takeNumber 61 = .ok (.dup, 1) := by decide +kernel
theorem dX1_takeNumber_62 : decode cX1_takeNumber 62 = .ok (.getfield 36, 3) := by decide +kernel
theorem dX1_takeNumber_65 : decode cX1_takeNumber 65 = .ok (.iconst 1, 1) := by decide +kernel
theorem dX1_takeNumber_66 : decode cX1_takeNumber 66 = .ok (.iadd, 1) := by decide +kernel
theorem dX1_takeNumber_67 : decode cX1_takeNumber 67 = .ok (.putfield 36, 3) := by decide +kernel
theorem dX1_takeNumber_70 : decode cX1_takeNumber 70 = .ok (.iinc 2 1, 3) := by decide +kernel
theorem dX1_takeNumber_73 : decode cX1_takeNumber 73 = .ok (.goto (-69), 3) := by decide +kernel
theorem dX1_takeNumber_76 : decode cX1_takeNumber 76 = .ok (.iload_n 2, 1) := by decide +kernel
theorem dX1_takeNumber_77 : decode cX1_takeNumber 77 = .ok (.ifCond .le 7, 3) := by decide +kernel
theorem dX1_takeNumber_80 : decode cX1_takeNumber 80 = .ok (.iload_n 1, 1) := by decide +kernel
theorem dX1_takeNumber_81 : decode cX1_takeNumber 81 = .ok (.goto 4, 3) := by decide +kernel
theorem dX1_takeNumber_84 : decode cX1_takeNumber 84 = .ok (.iconst (-1), 1) := by decide +kernel
theorem dX1_takeNumber_85 : decode cX1_takeNumber 85 = .ok (.ireturn, 1) := by decide +kernel
theorem dX1_isDigit_0 : decode cX1_isDigit 0 = .ok (.iload_n 0, 1) := by decide +kernel
theorem dX1_isDigit_1 : decode cX1_isDigit 1 = .ok (.bipush 48, 2) := by decide +kernel
theorem dX1_isDigit_3 : decode cX1_isDigit 3 = .ok (.if_icmp .lt 13, 3) := by decide +kernel
theorem dX1_isDigit_6 : decode cX1_isDigit 6 = .ok (.iload_n 0, 1) := by decide +kernel
theorem dX1_isDigit_7 : decode cX1_isDigit 7 = .ok (.bipush 57, 2) := by decide +kernel
theorem dX1_isDigit_9 : decode cX1_isDigit 9 = .ok (.if_icmp .gt 7, 3) := by decide +kernel
theorem dX1_isDigit_12 : decode cX1_isDigit 12 = .ok (.iconst 1, 1) := by decide +kernel
theorem dX1_isDigit_13 : decode cX1_isDigit 13 = .ok (.goto 4, 3) := by decide +kernel
theorem dX1_isDigit_16 : decode cX1_isDigit 16 = .ok (.iconst 0, 1) := by decide +kernel
theorem dX1_isDigit_17 : decode cX1_isDigit 17 = .ok (.ireturn, 1) := by decide +kernel
theorem dX2_init_0 : decode cX2_init 0 = .ok (.aload_n 0, 1) := by decide +kernel
theorem dX2_init_1 : decode cX2_init 1 = .ok (.invokespecial 3, 3) := by decide +kernel
theorem dX2_init_4 : decode cX2_init 4 = .ok (.aload_n 0, 1) := by decide +kernel
theorem dX2_init_5 : decode cX2_init 5 = .ok (.bipush 9, 2) := by decide +kernel
theorem dX2_init_7 : decode cX2_init 7 = .ok (.anewarray 9, 3) := by decide +kernel
theorem dX2_init_10 : decode cX2_init 10 = .ok (.putfield 11, 3) := by decide +kernel
theorem dX2_init_13 : decode cX2_init 13 = .ok (.aload_n 0, 1) := by decide +kernel
theorem dX2_init_14 : decode cX2_init 14 = .ok (.iconst 0, 1) := by decide +kernel
theorem dX2_init_15 : decode cX2_init 15 = .ok (.putfield 17, 3) := by decide +kernel
theorem dX2_init_18 : decode cX2_init 18 = .ok (.aload_n 0, 1) := by decide +kernel
theorem dX2_init_19 : decode cX2_init 19 = .ok (.iconst 0, 1) := by decide +kernel
theorem dX2_init_20 : decode cX2_init 20 = .ok (.putfield 21, 3) := by decide +kernel
theorem dX2_init_23 : decode cX2_init 23 = .ok (.iconst 0, 1) := by decide +kernel
theorem dX2_init_24 : decode cX2_init 24 = .ok (.istore_n 1, 1) := by decide +kernel
theorem dX2_init_25 : decode cX2_init 25 = .ok (.iload_n 1, 1) := by decide +kernel
theorem dX2_init_26 : decode cX2_init 26 = .ok (.aload_n 0, 1) := by decide +kernel
theorem dX2_init_27 : decode cX2_init 27 = .ok (.getfield 11, 3) := by decide +kernel
theorem dX2_init_30 : decode cX2_init 30 = .ok (.arraylength, 1) := by decide +kernel
theorem dX2_init_31 : decode cX2_init 31 = .ok (.if_icmp .ge 22, 3) := by decide +kernel
theorem dX2_init_34 : decode cX2_init 34 = .ok (.aload_n 0, 1) := by decide +kernel
theorem dX2_init_35 : decode cX2_init 35 = .ok (.getfield 11, 3) := by decide +kernel
theorem dX2_init_38 : decode cX2_init 38 = .ok (.iload_n 1, 1) := by decide +kernel
theorem dX2_init_39 : decode cX2_init 39 = .ok (.new 9, 3) := by decide +kernel
theorem dX2_init_42 : decode cX2_init 42 = .ok (.dup, 1) := by decide +kernel
theorem dX2_init_43 : decode cX2_init 43 = .ok (.invokespecial 24, 3) := by decide +kernel
theorem dX2_init_46 : decode cX2_init 46 = .ok (.aastore, 1) := by decide +kernel
theorem dX2_init_47 : decode cX2_init 47 = .ok (.iinc 1 1, 3) := by decide +kernel
theorem dX2_init_50 : decode cX2_init 50 = .ok (.goto (-25), 3) := by decide +kernel
theorem dX2_init_53 : decode cX2_init 53 = .ok (.return_, 1) := by decide +kernel
theorem dX2_keep_0 : decode cX2_keep 0 = .ok (.aload_n 0, 1) := by decide +kernel
theorem dX2_keep_1 : decode cX2_keep 1 = .ok (.aload_n 1, 1) := by decide +kernel
theorem dX2_keep_2 : decode cX2_keep 2 = .ok (.invokevirtual 25, 3) := by decide +kernel
theorem dX2_keep_5 : decode cX2_keep 5 = .ok (.aload_n 0, 1) := by decide +kernel
theorem dX2_keep_6 : decode cX2_keep 6 = .ok (.invokevirtual 29, 3) := by decide +kernel
theorem dX2_keep_9 : decode cX2_keep 9 = .ok (.return_, 1) := by decide +kernel
theorem dX2_prepare_0 : decode cX2_prepare 0 = .ok (.aload_n 0, 1) := by decide +kernel
theorem dX2_prepare_1 : decode cX2_prepare 1 = .ok (.getfield 11, 3) := by decide +kernel
theorem dX2_prepare_4 : decode cX2_prepare 4 = .ok (.aload_n 0, 1) := by decide +kernel
theorem dX2_prepare_5 : decode cX2_prepare 5 = .ok (.getfield 17, 3) := by decide +kernel
theorem dX2_prepare_8 : decode cX2_prepare 8 = .ok (.aaload, 1) := by decide +kernel
theorem dX2_prepare_9 : decode cX2_prepare 9 = .ok (.aload_n 1, 1) := by decide +kernel
theorem dX2_prepare_10 : decode cX2_prepare 10 = .ok (.invokevirtual 32, 3) := by decide +kernel
theorem dX2_prepare_13 : decode cX2_prepare 13 = .ok (.return_, 1) := by decide +kernel
theorem dX2_confirm_0 : decode cX2_confirm 0 = .ok (.aload_n 0, 1) := by decide +kernel
theorem dX2_confirm_1 : decode cX2_confirm 1 = .ok (.aload_n 0, 1) := by decide +kernel
theorem dX2_confirm_2 : decode cX2_confirm 2 = .ok (.getfield 17, 3) := by decide +kernel
theorem dX2_confirm_5 : decode cX2_confirm 5 = .ok (.iconst 1, 1) := by decide +kernel
theorem dX2_confirm_6 : decode cX2_confirm 6 = .ok (.iadd, 1) := by decide +kernel
theorem dX2_confirm_7 : decode cX2_confirm 7 = .ok (.bipush 9, 2) := by decide +kernel
theorem dX2_confirm_9 : decode cX2_confirm 9 = .ok (.irem, 1) := by decide +kernel
theorem dX2_confirm_10 : decode cX2_confirm 10 = .ok (.putfield 17, 3) := by decide +kernel
theorem dX2_confirm_13 : decode cX2_confirm 13 = .ok (.aload_n 0, 1) := by decide +kernel
theorem dX2_confirm_14 : decode cX2_confirm 14 = .ok (.aload_n 0, 1) := by decide +kernel
theorem dX2_confirm_15 : decode cX2_confirm 15 = .ok (.getfield 21, 3) := by decide +kernel
theorem dX2_confirm_18 : decode cX2_confirm 18 = .ok (.iconst 1, 1) := by decide +kernel
theorem dX2_confirm_19 : decode cX2_confirm 19 = .ok (.iadd, 1) := by decide +kernel
theorem dX2_confirm_20 : decode cX2_confirm 20 = .ok (.bipush 8, 2) := by decide +kernel
theorem dX2_confirm_22 : decode cX2_confirm 22 = .ok (.invokestatic 35, 3) := by decide +kernel
theorem dX2_confirm_25 : decode cX2_confirm 25 = .ok (.putfield 21, 3) := by decide +kernel
theorem dX2_confirm_28 : decode cX2_confirm 28 = .ok (.return_, 1) := by decide +kernel
theorem dX2_takeBack_0 : decode cX2_takeBack 0 = .ok (.aload_n 1, 1) := by decide +kernel
theorem dX2_takeBack_1 : decode cX2_takeBack 1 = .ok (.aload_n 0, 1) := by decide +kernel
theorem dX2_takeBack_2 : decode cX2_takeBack 2 = .ok (.getfield 11, 3) := by decide +kernel
theorem dX2_takeBack_5 : decode cX2_takeBack 5 = .ok (.aload_n 0, 1) := by decide +kernel
theorem dX2_takeBack_6 : decode cX2_takeBack 6 = .ok (.getfield 17, 3) := by decide +kernel
theorem dX2_takeBack_9 : decode cX2_takeBack 9 = .ok (.aaload, 1) := by decide +kernel
theorem dX2_takeBack_10 : decode cX2_takeBack 10 = .ok (.invokevirtual 32, 3) := by decide +kernel
theorem dX2_takeBack_13 : decode cX2_takeBack 13 = .ok (.return_, 1) := by decide +kernel
theorem dX2_stepBack_0 : decode cX2_stepBack 0 = .ok (.aload_n 0, 1) := by decide +kernel
theorem dX2_stepBack_1 : decode cX2_stepBack 1 = .ok (.aload_n 0, 1) := by decide +kernel
theorem dX2_stepBack_2 : decode cX2_stepBack 2 = .ok (.getfield 17, 3) := by decide +kernel
theorem dX2_stepBack_5 : decode cX2_stepBack 5 = .ok (.bipush 8, 2) := by decide +kernel
theorem dX2_stepBack_7 : decode cX2_stepBack 7 = .ok (.iadd, 1) := by decide +kernel
theorem dX2_stepBack_8 : decode cX2_stepBack 8 = .ok (.bipush 9, 2) := by decide +kernel
theorem dX2_stepBack_10 : decode cX2_stepBack 10 = .ok (.irem, 1) := by decide +kernel
theorem dX2_stepBack_11 : decode cX2_stepBack 11 = .ok (.putfield 17, 3) := by decide +kernel
theorem dX2_stepBack_14 : decode cX2_stepBack 14 = .ok (.aload_n 0, 1) := by decide +kernel
theorem dX2_stepBack_15 : decode cX2_stepBack 15 = .ok (.dup, 1) := by decide +kernel
theorem dX2_stepBack_16 : decode cX2_stepBack 16 = .ok (.getfield 21, 3) := by decide +kernel
theorem dX2_stepBack_19 : decode cX2_stepBack 19 = .ok (.iconst 1, 1) := by decide +kernel
theorem dX2_stepBack_20 : decode cX2_stepBack 20 = .ok (.isub, 1) := by decide +kernel
theorem dX2_stepBack_21 : decode cX2_stepBack 21 = .ok (.putfield 21, 3) := by decide +kernel
theorem dX2_stepBack_24 : decode cX2_stepBack 24 = .ok (.aload_n 0, 1) := by decide +kernel
theorem dX2_stepBack_25 : decode cX2_stepBack 25 = .ok (.aload_n 1, 1) := by decide +kernel
theorem dX2_stepBack_26 : decode cX2_stepBack 26 = .ok (.invokevirtual 41, 3) := by decide +kernel
theorem dX2_stepBack_29 : decode cX2_stepBack 29 = .ok (.return_, 1) := by decide +kernel
theorem dX3_init_0 : decode cX3_init 0 = .ok (.aload_n 0, 1) := by decide +kernel
theorem dX3_init_1 : decode cX3_init 1 = .ok (.invokespecial 3, 3) := by decide +kernel
theorem dX3_init_4 : decode cX3_init 4 = .ok (.aload_n 0, 1) := by decide +kernel
theorem dX3_init_5 : decode cX3_init 5 = .ok (.bipush 20, 2) := by decide +kernel
theorem dX3_init_7 : decode cX3_init 7 = .ok (.newarray .int, 2) := by decide +kernel
theorem dX3_init_9 : decode cX3_init 9 = .ok (.putfield 9, 3) := by decide +kernel
theorem dX3_init_12 : decode cX3_init 12 = .ok (.aload_n 0, 1) := by decide +kernel
theorem dX3_init_13 : decode cX3_init 13 = .ok (.bipush 20, 2) := by decide +kernel
theorem dX3_init_15 : decode cX3_init 15 = .ok (.newarray .int, 2) := by decide +kernel
theorem dX3_init_17 : decode cX3_init 17 = .ok (.putfield 15, 3) := by decide +kernel
theorem dX3_init_20 : decode cX3_init 20 = .ok (.aload_n 0, 1) := by decide +kernel
theorem dX3_init_21 : decode cX3_init 21 = .ok (.bipush 20, 2) := by decide +kernel
theorem dX3_init_23 : decode cX3_init 23 = .ok (.newarray .boolean, 2) := by decide +kernel
theorem dX3_init_25 : decode cX3_init 25 = .ok (.putfield 18, 3) := by decide +kernel
theorem dX3_init_28 : decode cX3_init 28 = .ok (.aload_n 0, 1) := by decide +kernel
theorem dX3_init_29 : decode cX3_init 29 = .ok (.iconst 0, 1) := by decide +kernel
theorem dX3_init_30 : decode cX3_init 30 = .ok (.putfield 22, 3) := by decide +kernel
theorem dX3_init_33 : decode cX3_init 33 = .ok (.return_, 1) := by decide +kernel
theorem dX3_assess_0 : decode cX3_assess 0 = .ok (.aload_n 0, 1) := by decide +kernel
theorem dX3_assess_1 : decode cX3_assess 1 = .ok (.aload_n 1, 1) := by decide +kernel
theorem dX3_assess_2 : decode cX3_assess 2 = .ok (.getfield 26, 3) := by decide +kernel
theorem dX3_assess_5 : decode cX3_assess 5 = .ok (.bipush 20, 2) := by decide +kernel
theorem dX3_assess_7 : decode cX3_assess 7 = .ok (.invokestatic 31, 3) := by decide +kernel
theorem dX3_assess_10 : decode cX3_assess 10 = .ok (.putfield 22, 3) := by decide +kernel
theorem dX3_assess_13 : decode cX3_assess 13 = .ok (.iconst 0, 1) := by decide +kernel
theorem dX3_assess_14 : decode cX3_assess 14 = .ok (.istore_n 3, 1) := by decide +kernel
theorem dX3_assess_15 : decode cX3_assess 15 = .ok (.iload_n 3, 1) := by decide +kernel
theorem dX3_assess_16 : decode cX3_assess 16 = .ok (.aload_n 0, 1) := by decide +kernel
theorem dX3_assess_17 : decode cX3_assess 17 = .ok (.getfield 22, 3) := by decide +kernel
theorem dX3_assess_20 : decode cX3_assess 20 = .ok (.if_icmp .ge 45, 3) := by decide +kernel
theorem dX3_assess_23 : decode cX3_assess 23 = .ok (.aload_n 2, 1) := by decide +kernel
theorem dX3_assess_24 : decode cX3_assess 24 = .ok (.aload_n 1, 1) := by decide +kernel
theorem dX3_assess_25 : decode cX3_assess 25 = .ok (.iload_n 3, 1) := by decide +kernel
theorem dX3_assess_26 : decode cX3_assess 26 = .ok (.invokevirtual 37, 3) := by decide +kernel
theorem dX3_assess_29 : decode cX3_assess 29 = .ok (.aload_n 0, 1) := by decide +kernel
theorem dX3_assess_30 : decode cX3_assess 30 = .ok (.getfield 9, 3) := by decide +kernel
theorem dX3_assess_33 : decode cX3_assess 33 = .ok (.iload_n 3, 1) := by decide +kernel
theorem dX3_assess_34 : decode cX3_assess 34 = .ok (.aload_n 2, 1) := by decide +kernel
theorem dX3_assess_35 : decode cX3_assess 35 = .ok (.getfield 43, 3) := by decide +kernel
theorem dX3_assess_38 : decode cX3_assess 38 = .ok (.iastore, 1) := by decide +kernel
theorem dX3_assess_39 : decode cX3_assess 39 = .ok (.aload_n 0, 1) := by decide +kernel
theorem dX3_assess_40 : decode cX3_assess 40 = .ok (.getfield 15, 3) := by decide +kernel
theorem dX3_assess_43 : decode cX3_assess 43 = .ok (.iload_n 3, 1) := by decide +kernel
theorem dX3_assess_44 : decode cX3_assess 44 = .ok (.aload_n 2, 1) := by decide +kernel
theorem dX3_assess_45 : decode cX3_assess 45 = .ok (.getfield 46, 3) := by decide +kernel
theorem dX3_assess_48 : decode cX3_assess 48 = .ok (.iastore, 1) := by decide +kernel
theorem dX3_assess_49 : decode cX3_assess 49 = .ok (.aload_n 0, 1) := by decide +kernel
theorem dX3_assess_50 : decode cX3_assess 50 = .ok (.getfield 18, 3) := by decide +kernel
theorem dX3_assess_53 : decode cX3_assess 53 = .ok (.iload_n 3, 1) := by decide +kernel
theorem dX3_assess_54 : decode cX3_assess 54 = .ok (.aload_n 2, 1) := by decide +kernel
theorem dX3_assess_55 : decode cX3_assess 55 = .ok (.getfield 49, 3) := by decide +kernel
theorem dX3_assess_58 : decode cX3_assess 58 = .ok (.bastore, 1) := by decide +kernel
theorem dX3_assess_59 : decode cX3_assess 59 = .ok (.iinc 3 1, 3) := by decide +kernel
theorem dX3_assess_62 : decode cX3_assess 62 = .ok (.goto (-47), 3) := by decide +kernel
theorem dX3_assess_65 : decode cX3_assess 65 = .ok (.return_, 1) := by decide +kernel
theorem dX3_placeOf_0 : decode cX3_placeOf 0 = .ok (.iconst 0, 1) := by decide +kernel
theorem dX3_placeOf_1 : decode cX3_placeOf 1 = .ok (.istore_n 2, 1) := by decide +kernel
theorem dX3_placeOf_2 : decode cX3_placeOf 2 = .ok (.iconst 0, 1) := by decide +kernel
theorem dX3_placeOf_3 : decode cX3_placeOf 3 = .ok (.istore_n 3, 1) := by decide +kernel
theorem dX3_placeOf_4 : decode cX3_placeOf 4 = .ok (.iload_n 3, 1) := by decide +kernel
theorem dX3_placeOf_5 : decode cX3_placeOf 5 = .ok (.aload_n 0, 1) := by decide +kernel
theorem dX3_placeOf_6 : decode cX3_placeOf 6 = .ok (.getfield 22, 3) := by decide +kernel
theorem dX3_placeOf_9 : decode cX3_placeOf 9 = .ok (.if_icmp .ge 21, 3) := by decide +kernel
theorem dX3_placeOf_12 : decode cX3_placeOf 12 = .ok (.aload_n 0, 1) := by decide +kernel
theorem dX3_placeOf_13 : decode cX3_placeOf 13 = .ok (.iload_n 3, 1) := by decide +kernel
theorem dX3_placeOf_14 : decode cX3_placeOf 14 = .ok (.iload_n 1, 1) := by decide +kernel
theorem dX3_placeOf_15 : decode cX3_placeOf 15 = .ok (.invokevirtual 52, 3) := by decide +kernel
theorem dX3_placeOf_18 : decode cX3_placeOf 18 = .ok (.ifCond .eq 6, 3) := by decide +kernel
theorem dX3_placeOf_21 : decode cX3_placeOf 21 = .ok (.iinc 2 1, 3) := by decide +kernel
theorem dX3_placeOf_24 : decode cX3_placeOf 24 = .ok (.iinc 3 1, 3) := by decide +kernel
theorem dX3_placeOf_27 : decode cX3_placeOf 27 = .ok (.goto (-23), 3) := by decide +kernel
theorem dX3_placeOf_30 : decode cX3_placeOf 30 = .ok (.iload_n 2, 1) := by decide +kernel
theorem dX3_placeOf_31 : decode cX3_placeOf 31 = .ok (.ireturn, 1) := by decide +kernel
theorem dX3_studentAt_0 : decode cX3_studentAt 0 = .ok (.iconst 0, 1) := by decide +kernel
theorem dX3_studentAt_1 : decode cX3_studentAt 1 = .ok (.istore_n 2, 1) := by decide +kernel
theorem dX3_studentAt_2 : decode cX3_studentAt 2 = .ok (.iload_n 2, 1) := by decide +kernel
theorem dX3_studentAt_3 : decode cX3_studentAt 3 = .ok (.aload_n 0, 1) := by decide +kernel
theorem dX3_studentAt_4 : decode cX3_studentAt 4 = .ok (.getfield 22, 3) := by decide +kernel
theorem dX3_studentAt_7 : decode cX3_studentAt 7 = .ok (.if_icmp .ge 20, 3) := by decide +kernel
theorem dX3_studentAt_10 : decode cX3_studentAt 10 = .ok (.aload_n 0, 1) := by decide +kernel
theorem dX3_studentAt_11 : decode cX3_studentAt 11 = .ok (.iload_n 2, 1) := by decide +kernel
theorem dX3_studentAt_12 : decode cX3_studentAt 12 = .ok (.invokevirtual 56, 3) := by decide +kernel
theorem dX3_studentAt_15 : decode cX3_studentAt 15 = .ok (.iload_n 1, 1) := by decide +kernel
theorem dX3_studentAt_16 : decode cX3_studentAt 16 = .ok (.if_icmp .ne 5, 3) := by decide +kernel
theorem dX3_studentAt_19 : decode cX3_studentAt 19 = .ok (.iload_n 2, 1) := by decide +kernel
theorem dX3_studentAt_20 : decode cX3_studentAt 20 = .ok (.ireturn, 1) := by decide +kernel
theorem dX3_studentAt_21 : decode cX3_studentAt 21 = .ok (.iinc 2 1, 3) := by decide +kernel
theorem dX3_studentAt_24 : decode cX3_studentAt 24 = .ok (.goto (-22), 3) := by decide +kernel
theorem dX3_studentAt_27 : decode cX3_studentAt 27 = .ok (.iconst (-1), 1) := by decide +kernel
theorem dX3_studentAt_28 : decode cX3_studentAt 28 = .ok (.ireturn, 1) := by decide +kernel
theorem dX3_standsBefore_0 : decode cX3_standsBefore 0 = .ok (.aload_n 0, 1) := by decide +kernel
theorem dX3_standsBefore_1 : decode cX3_standsBefore 1 = .ok (.getfield 9, 3) := by decide +kernel
theorem dX3_standsBefore_4 : decode cX3_standsBefore 4 = .ok (.iload_n 1, 1) := by decide +kernel
theorem dX3_standsBefore_5 : decode cX3_standsBefore 5 = .ok (.iaload, 1) := by decide +kernel
theorem dX3_standsBefore_6 : decode cX3_standsBefore 6 = .ok (.aload_n 0, 1) := by decide +kernel
theorem dX3_standsBefore_7 : decode cX3_standsBefore 7 = .ok (.getfield 9, 3) := by decide +kernel
theorem dX3_standsBefore_10 : decode cX3_standsBefore 10 = .ok (.iload_n 2, 1) := by decide +kernel
theorem dX3_standsBefore_11 : decode cX3_standsBefore 11 = .ok (.iaload, 1) := by decide +kernel
theorem dX3_standsBefore_12 : decode cX3_standsBefore 12 = .ok (.if_icmp .eq 30, 3) := by decide +kernel
theorem dX3_standsBefore_15 : decode cX3_standsBefore 15 = .ok (.aload_n 0, 1) := by decide +kernel
theorem dX3_standsBefore_16 : decode cX3_standsBefore 16 = .ok (.getfield 9, 3) := by decide +kernel
theorem dX3_standsBefore_19 : decode cX3_standsBefore 19 = .ok (.iload_n 1, 1) := by decide +kernel
theorem dX3_standsBefore_20 : decode cX3_standsBefore 20 = .ok (.iaload, 1) := by decide +kernel
theorem dX3_standsBefore_21 : decode cX3_standsBefore 21 = .ok (.invokestatic 60, 3) := by decide +kernel
theorem dX3_standsBefore_24 : decode cX3_standsBefore 24 = .ok (.aload_n 0, 1) := by decide +kernel
theorem dX3_standsBefore_25 : decode cX3_standsBefore 25 = .ok (.getfield 9, 3) := by decide +kernel
theorem dX3_standsBefore_28 : decode cX3_standsBefore 28 = .ok (.iload_n 2, 1) := by decide +kernel
theorem dX3_standsBefore_29 : decode cX3_standsBefore 29 = .ok (.iaload, 1) := by decide +kernel
theorem dX3_standsBefore_30 : decode cX3_standsBefore 30 = .ok (.invokestatic 60, 3) := by decide +kernel
theorem dX3_standsBefore_33 : decode cX3_standsBefore 33 = .ok (.if_icmp .ge 7, 3) := by decide +kernel
theorem dX3_standsBefore_36 : decode cX3_standsBefore 36 = .ok (.iconst 1, 1) := by decide +kernel
theorem dX3_standsBefore_37 : decode cX3_standsBefore 37 = .ok (.goto 4, 3) := by decide +kernel
theorem dX3_standsBefore_40 : decode cX3_standsBefore 40 = .ok (.iconst 0, 1) := by decide +kernel
theorem dX3_standsBefore_41 : decode cX3_standsBefore 41 = .ok (.ireturn, 1) := by decide +kernel
theorem dX3_standsBefore_42 : decode cX3_standsBefore 42 = .ok (.aload_n 0, 1) := by decide +kernel
theorem dX3_standsBefore_43 : decode cX3_standsBefore 43 = .ok (.getfield 15, 3) := by decide +kernel
theorem dX3_standsBefore_46 : decode cX3_standsBefore 46 = .ok (.iload_n 1, 1) := by decide +kernel
theorem dX3_standsBefore_47 : decode cX3_standsBefore 47 = .ok (.iaload, 1) := by decide +kernel
theorem dX3_standsBefore_48 : decode cX3_standsBefore 48 = .ok (.aload_n 0, 1) := by decide +kernel
theorem dX3_standsBefore_49 : decode cX3_standsBefore 49 = .ok (.getfield 15, 3) := by decide +kernel
theorem dX3_standsBefore_52 : decode cX3_standsBefore 52 = .ok (.iload_n 2, 1) := by decide +kernel
theorem dX3_standsBefore_53 : decode cX3_standsBefore 53 = .ok (.iaload, 1) := by decide +kernel
theorem dX3_standsBefore_54 : decode cX3_standsBefore 54 = .ok (.if_icmp .eq 24, 3) := by decide +kernel
theorem dX3_standsBefore_57 : decode cX3_standsBefore 57 = .ok (.aload_n 0, 1) := by decide +kernel
theorem dX3_standsBefore_58 : decode cX3_standsBefore 58 = .ok (.getfield 15, 3) := by decide +kernel
theorem dX3_standsBefore_61 : decode cX3_standsBefore 61 = .ok (.iload_n 1, 1) := by decide +kernel
theorem dX3_standsBefore_62 : decode cX3_standsBefore 62 = .ok (.iaload, 1) := by decide +kernel
theorem dX3_standsBefore_63 : decode cX3_standsBefore 63 = .ok (.aload_n 0, 1) := by decide +kernel
theorem dX3_standsBefore_64 : decode cX3_standsBefore 64 = .ok (.getfield 15, 3) := by decide +kernel
theorem dX3_standsBefore_67 : decode cX3_standsBefore 67 = .ok (.iload_n 2, 1) := by decide +kernel
theorem dX3_standsBefore_68 : decode cX3_standsBefore 68 = .ok (.iaload, 1) := by decide +kernel
theorem dX3_standsBefore_69 : decode cX3_standsBefore 69 = .ok (.if_icmp .le 7, 3) := by decide +kernel
theorem dX3_standsBefore_72 : decode cX3_standsBefore 72 = .ok (.iconst 1, 1) := by decide +kernel
theorem dX3_standsBefore_73 : decode cX3_standsBefore 73 = .ok (.goto 4, 3) := by decide +kernel
theorem dX3_standsBefore_76 : decode cX3_standsBefore 76 = .ok (.iconst 0, 1) := by decide +kernel
theorem dX3_standsBefore_77 : decode cX3_standsBefore 77 = .ok (.ireturn, 1) := by decide +kernel
theorem dX3_standsBefore_78 : decode cX3_standsBefore 78 = .ok (.iload_n 1, 1) := by decide +kernel
theorem dX3_standsBefore_79 : decode cX3_standsBefore 79 = .ok (.iload_n 2, 1) := by decide +kernel
theorem dX3_standsBefore_80 : decode cX3_standsBefore 80 = .ok (.if_icmp .ge 7, 3) := by decide +kernel
theorem dX3_standsBefore_83 : decode cX3_standsBefore 83 = .ok (.iconst 1, 1) := by decide +kernel
theorem dX3_standsBefore_84 : decode cX3_standsBefore 84 = .ok (.goto 4, 3) := by decide +kernel
theorem dX3_standsBefore_87 : decode cX3_standsBefore 87 = .ok (.iconst 0, 1) := by decide +kernel
theorem dX3_standsBefore_88 : decode cX3_standsBefore 88 = .ok (.ireturn, 1) := by decide +kernel
theorem dX3_countOf_0 : decode cX3_countOf 0 = .ok (.iconst 0, 1) := by decide +kernel
theorem dX3_countOf_1 : decode cX3_countOf 1 = .ok (.istore_n 2, 1) := by decide +kernel
theorem dX3_countOf_2 : decode cX3_countOf 2 = .ok (.iconst 0, 1) := by decide +kernel
theorem dX3_countOf_3 : decode cX3_countOf 3 = .ok (.istore_n 3, 1) := by decide +kernel
theorem dX3_countOf_4 : decode cX3_countOf 4 = .ok (.iload_n 3, 1) := by decide +kernel
theorem dX3_countOf_5 : decode cX3_countOf 5 = .ok (.aload_n 0, 1) := by decide +kernel
theorem dX3_countOf_6 : decode cX3_countOf 6 = .ok (.getfield 22, 3) := by decide +kernel
theorem dX3_countOf_9 : decode cX3_countOf 9 = .ok (.if_icmp .ge 22, 3) := by decide +kernel
theorem dX3_countOf_12 : decode cX3_countOf 12 = .ok (.aload_n 0, 1) := by decide +kernel
theorem dX3_countOf_13 : decode cX3_countOf 13 = .ok (.getfield 9, 3) := by decide +kernel
theorem dX3_countOf_16 : decode cX3_countOf 16 = .ok (.iload_n 3, 1) := by decide +kernel
theorem dX3_countOf_17 : decode cX3_countOf 17 = .ok (.iaload, 1) := by decide +kernel
theorem dX3_countOf_18 : decode cX3_countOf 18 = .ok (.iload_n 1, 1) := by decide +kernel
theorem dX3_countOf_19 : decode cX3_countOf 19 = .ok (.if_icmp .ne 6, 3) := by decide +kernel
theorem dX3_countOf_22 : decode cX3_countOf 22 = .ok (.iinc 2 1, 3) := by decide +kernel
theorem dX3_countOf_25 : decode cX3_countOf 25 = .ok (.iinc 3 1, 3) := by decide +kernel
theorem dX3_countOf_28 : decode cX3_countOf 28 = .ok (.goto (-24), 3) := by decide +kernel
theorem dX3_countOf_31 : decode cX3_countOf 31 = .ok (.iload_n 2, 1) := by decide +kernel
theorem dX3_countOf_32 : decode cX3_countOf 32 = .ok (.ireturn, 1) := by decide +kernel
theorem dX3_liftedTo_0 : decode cX3_liftedTo 0 = .ok (.iconst 0, 1) := by decide +kernel
theorem dX3_liftedTo_1 : decode cX3_liftedTo 1 = .ok (.istore_n 2, 1) := by decide +kernel
theorem dX3_liftedTo_2 : decode cX3_liftedTo 2 = .ok (.iconst 0, 1) := by decide +kernel
theorem dX3_liftedTo_3 : decode cX3_liftedTo 3 = .ok (.istore_n 3, 1) := by decide +kernel
theorem dX3_liftedTo_4 : decode cX3_liftedTo 4 = .ok (.iload_n 3, 1) := by decide +kernel
theorem dX3_liftedTo_5 : decode cX3_liftedTo 5 = .ok (.aload_n 0, 1) := by decide +kernel
theorem dX3_liftedTo_6 : decode cX3_liftedTo 6 = .ok (.getfield 22, 3) := by decide +kernel
theorem dX3_liftedTo_9 : decode cX3_liftedTo 9 = .ok (.if_icmp .ge 31, 3) := by decide +kernel
theorem dX3_liftedTo_12 : decode cX3_liftedTo 12 = .ok (.aload_n 0, 1) := by decide +kernel
theorem dX3_liftedTo_13 : decode cX3_liftedTo 13 = .ok (.getfield 9, 3) := by decide +kernel
theorem dX3_liftedTo_16 : decode cX3_liftedTo 16 = .ok (.iload_n 3, 1) := by decide +kernel
theorem dX3_liftedTo_17 : decode cX3_liftedTo 17 = .ok (.iaload, 1) := by decide +kernel
theorem dX3_liftedTo_18 : decode cX3_liftedTo 18 = .ok (.iload_n 1, 1) := by decide +kernel
theorem dX3_liftedTo_19 : decode cX3_liftedTo 19 = .ok (.if_icmp .ne 15, 3) := by decide +kernel
theorem dX3_liftedTo_22 : decode cX3_liftedTo 22 = .ok (.aload_n 0, 1) := by decide +kernel
theorem dX3_liftedTo_23 : decode cX3_liftedTo 23 = .ok (.getfield 18, 3) := by decide +kernel
theorem dX3_liftedTo_26 : decode cX3_liftedTo 26 = .ok (.iload_n 3, 1) := by decide +kernel
theorem dX3_liftedTo_27 : decode cX3_liftedTo 27 = .ok (.baload, 1) := by decide +kernel
theorem dX3_liftedTo_28 : decode cX3_liftedTo 28 = .ok (.ifCond .eq 6, 3) := by decide +kernel
theorem dX3_liftedTo_31 : decode cX3_liftedTo 31 = .ok (.iinc 2 1, 3) := by decide +kernel
theorem dX3_liftedTo_34 : decode cX3_liftedTo 34 = .ok (.iinc 3 1, 3) := by decide +kernel
theorem dX3_liftedTo_37 : decode cX3_liftedTo 37 = .ok (.goto (-33), 3) := by decide +kernel
theorem dX3_liftedTo_40 : decode cX3_liftedTo 40 = .ok (.iload_n 2, 1) := by decide +kernel
theorem dX3_liftedTo_41 : decode cX3_liftedTo 41 = .ok (.ireturn, 1) := by decide +kernel
theorem dX3_meanAverage_0 : decode cX3_meanAverage 0 = .ok (.iconst 0, 1) := by decide +kernel
theorem dX3_meanAverage_1 : decode cX3_meanAverage 1 = .ok (.istore_n 2, 1) := by decide +kernel
theorem dX3_meanAverage_2 : decode cX3_meanAverage 2 = .ok (.iconst 0, 1) := by decide +kernel
theorem dX3_meanAverage_3 : decode cX3_meanAverage 3 = .ok (.istore_n 3, 1) := by decide +kernel
theorem dX3_meanAverage_4 : decode cX3_meanAverage 4 = .ok (.iconst 0, 1) := by decide +kernel
theorem dX3_meanAverage_5 : decode cX3_meanAverage 5 = .ok (.istore 4, 2) := by decide +kernel
theorem dX3_meanAverage_7 : decode cX3_meanAverage 7 = .ok (.iload 4, 2) := by decide +kernel
theorem dX3_meanAverage_9 : decode cX3_meanAverage 9 = .ok (.aload_n 0, 1) := by decide +kernel
theorem dX3_meanAverage_10 : decode cX3_meanAverage 10 = .ok (.getfield 22, 3) := by decide +kernel
theorem dX3_meanAverage_13 : decode cX3_meanAverage 13 = .ok (.if_icmp .ge 33, 3) := by decide +kernel
theorem dX3_meanAverage_16 : decode cX3_meanAverage 16 = .ok (.aload_n 0, 1) := by decide +kernel
theorem dX3_meanAverage_17 : decode cX3_meanAverage 17 = .ok (.getfield 9, 3) := by decide +kernel
theorem dX3_meanAverage_20 : decode cX3_meanAverage 20 = .ok (.iload 4, 2) := by decide +kernel
theorem dX3_meanAverage_22 : decode cX3_meanAverage 22 = .ok (.iaload, 1) := by decide +kernel
theorem dX3_meanAverage_23 : decode cX3_meanAverage 23 = .ok (.iload_n 1, 1) := by decide +kernel
theorem dX3_meanAverage_24 : decode cX3_meanAverage 24 = .ok (.if_icmp .ne 16, 3) := by decide +kernel
theorem dX3_meanAverage_27 : decode cX3_meanAverage 27 = .ok (.iload_n 2, 1) := by decide +kernel
theorem dX3_meanAverage_28 : decode cX3_meanAverage 28 = .ok (.aload_n 0, 1) := by decide +kernel
theorem dX3_meanAverage_29 : decode cX3_meanAverage 29 = .ok (.getfield 15, 3) := by decide +kernel
theorem dX3_meanAverage_32 : decode cX3_meanAverage 32 = .ok (.iload 4, 2) := by decide +kernel
theorem dX3_meanAverage_34 : decode cX3_meanAverage 34 = .ok (.iaload, 1) := by decide +kernel
theorem dX3_meanAverage_35 : decode cX3_meanAverage 35 = .ok (.iadd, 1) := by decide +kernel
theorem dX3_meanAverage_36 : decode cX3_meanAverage 36 = .ok (.istore_n 2, 1) := by decide +kernel
theorem dX3_meanAverage_37 : decode cX3_meanAverage 37 = .ok (.iinc 3 1, 3) := by decide +kernel
theorem dX3_meanAverage_40 : decode cX3_meanAverage 40 = .ok (.iinc 4 1, 3) := by decide +kernel
theorem dX3_meanAverage_43 : decode cX3_meanAverage 43 = .ok (.goto (-36), 3) := by decide +kernel
theorem dX3_meanAverage_46 : decode cX3_meanAverage 46 = .ok (.iload_n 3, 1) := by decide +kernel
theorem dX3_meanAverage_47 : decode cX3_meanAverage 47 = .ok (.ifCond .le 9, 3) := by decide +kernel
theorem dX3_meanAverage_50 : decode cX3_meanAverage 50 = .ok (.iload_n 2, 1) := by decide +kernel
theorem dX3_meanAverage_51 : decode cX3_meanAverage 51 = .ok (.iload_n 3, 1) := by decide +kernel
theorem dX3_meanAverage_52 : decode cX3_meanAverage 52 = .ok (.idiv, 1) := by decide +kernel
theorem dX3_meanAverage_53 : decode cX3_meanAverage 53 = .ok (.goto 5, 3) := by decide +kernel
theorem dX3_meanAverage_56 : decode cX3_meanAverage 56 = .ok (.bipush (-5), 2) := by decide +kernel
theorem dX3_meanAverage_58 : decode cX3_meanAverage 58 = .ok (.ireturn, 1) := by decide +kernel
theorem dX4_init_0 : decode cX4_init 0 = .ok (.aload_n 0, 1) := by decide +kernel
theorem dX4_init_1 : decode cX4_init 1 = .ok (.invokespecial 3, 3) := by decide +kernel
theorem dX4_init_4 : decode cX4_init 4 = .ok (.aload_n 0, 1) := by decide +kernel
theorem dX4_init_5 : decode cX4_init 5 = .ok (.bipush 8, 2) := by decide +kernel
theorem dX4_init_7 : decode cX4_init 7 = .ok (.newarray .int, 2) := by decide +kernel
theorem dX4_init_9 : decode cX4_init 9 = .ok (.putfield 9, 3) := by decide +kernel
theorem dX4_init_12 : decode cX4_init 12 = .ok (.aload_n 0, 1) := by decide +kernel
theorem dX4_init_13 : decode cX4_init 13 = .ok (.bipush 8, 2) := by decide +kernel
theorem dX4_init_15 : decode cX4_init 15 = .ok (.newarray .int, 2) := by decide +kernel
theorem dX4_init_17 : decode cX4_init 17 = .ok (.putfield 15, 3) := by decide +kernel
theorem dX4_init_20 : decode cX4_init 20 = .ok (.aload_n 0, 1) := by decide +kernel
theorem dX4_init_21 : decode cX4_init 21 = .ok (.iconst 4, 1) := by decide +kernel
theorem dX4_init_22 : decode cX4_init 22 = .ok (.newarray .int, 2) := by decide +kernel
theorem dX4_init_24 : decode cX4_init 24 = .ok (.putfield 18, 3) := by decide +kernel
theorem dX4_init_27 : decode cX4_init 27 = .ok (.aload_n 0, 1) := by decide +kernel
theorem dX4_init_28 : decode cX4_init 28 = .ok (.iconst 4, 1) := by decide +kernel
theorem dX4_init_29 : decode cX4_init 29 = .ok (.newarray .boolean, 2) := by decide +kernel
theorem dX4_init_31 : decode cX4_init 31 = .ok (.putfield 21, 3) := by decide +kernel
theorem dX4_init_34 : decode cX4_init 34 = .ok (.aload_n 0, 1) := by decide +kernel
theorem dX4_init_35 : decode cX4_init 35 = .ok (.iconst 0, 1) := by decide +kernel
theorem dX4_init_36 : decode cX4_init 36 = .ok (.putfield 25, 3) := by decide +kernel
theorem dX4_init_39 : decode cX4_init 39 = .ok (.aload_n 0, 1) := by decide +kernel
theorem dX4_init_40 : decode cX4_init 40 = .ok (.iconst 0, 1) := by decide +kernel
theorem dX4_init_41 : decode cX4_init 41 = .ok (.putfield 29, 3) := by decide +kernel
theorem dX4_init_44 : decode cX4_init 44 = .ok (.aload_n 0, 1) := by decide +kernel
theorem dX4_init_45 : decode cX4_init 45 = .ok (.iconst 0, 1) := by decide +kernel
theorem dX4_init_46 : decode cX4_init 46 = .ok (.putfield 32, 3) := by decide +kernel
theorem dX4_init_49 : decode cX4_init 49 = .ok (.aload_n 0, 1) := by decide +kernel
theorem dX4_init_50 : decode cX4_init 50 = .ok (.iconst 0, 1) := by decide +kernel
theorem dX4_init_51 : decode cX4_init 51 = .ok (.putfield 35, 3) := by decide +kernel
theorem dX4_init_54 : decode cX4_init 54 = .ok (.aload_n 0, 1) := by decide +kernel
theorem dX4_init_55 : decode cX4_init 55 = .ok (.iconst 0, 1) := by decide +kernel
theorem dX4_init_56 : decode cX4_init 56 = .ok (.putfield 39, 3) := by decide +kernel
theorem dX4_init_59 : decode cX4_init 59 = .ok (.aload_n 0, 1) := by decide +kernel
theorem dX4_init_60 : decode cX4_init 60 = .ok (.iconst 0, 1) := by decide +kernel
theorem dX4_init_61 : decode cX4_init 61 = .ok (.putfield 42, 3) := by decide +kernel
theorem dX4_init_64 : decode cX4_init 64 = .ok (.aload_n 0, 1) := by decide +kernel
theorem dX4_init_65 : decode cX4_init 65 = .ok (.iconst 0, 1) := by decide +kernel
theorem dX4_init_66 : decode cX4_init 66 = .ok (.putfield 45, 3) := by decide +kernel
theorem dX4_init_69 : decode cX4_init 69 = .ok (.aload_n 0, 1) := by decide +kernel
theorem dX4_init_70 : decode cX4_init 70 = .ok (.iconst 0, 1) := by decide +kernel
theorem dX4_init_71 : decode cX4_init 71 = .ok (.putfield 48, 3) := by decide +kernel
theorem dX4_init_74 : decode cX4_init 74 = .ok (.return_, 1) := by decide +kernel
theorem dX4_assess_0 : decode cX4_assess 0 = .ok (.iconst 0, 1) := by decide +kernel
theorem dX4_assess_1 : decode cX4_assess 1 = .ok (.istore_n 3, 1) := by decide +kernel
theorem dX4_assess_2 : decode cX4_assess 2 = .ok (.iload_n 3, 1) := by decide +kernel
theorem dX4_assess_3 : decode cX4_assess 3 = .ok (.aload_n 1, 1) := by decide +kernel
theorem dX4_assess_4 : decode cX4_assess 4 = .ok (.getfield 51, 3) := by decide +kernel
theorem dX4_assess_7 : decode cX4_assess 7 = .ok (.if_icmp .ge 21, 3) := by decide +kernel
theorem dX4_assess_10 : decode cX4_assess 10 = .ok (.aload_n 0, 1) := by decide +kernel
theorem dX4_assess_11 : decode cX4_assess 11 = .ok (.getfield 9, 3) := by decide +kernel
theorem dX4_assess_14 : decode cX4_assess 14 = .ok (.iload_n 3, 1) := by decide +kernel
theorem dX4_assess_15 : decode cX4_assess 15 = .ok (.aload_n 1, 1) := by decide +kernel
theorem dX4_assess_16 : decode cX4_assess 16 = .ok (.iload_n 2, 1) := by decide +kernel
theorem dX4_assess_17 : decode cX4_assess 17 = .ok (.iload_n 3, 1) := by decide +kernel
theorem dX4_assess_18 : decode cX4_assess 18 = .ok (.invokevirtual 56, 3) := by decide +kernel
theorem dX4_assess_21 : decode cX4_assess 21 = .ok (.iastore, 1) := by decide +kernel
theorem dX4_assess_22 : decode cX4_assess 22 = .ok (.iinc 3 1, 3) := by decide +kernel
theorem dX4_assess_25 : decode cX4_assess 25 = .ok (.goto (-23), 3) := by decide +kernel
theorem dX4_assess_28 : decode cX4_assess 28 = .ok (.aload_n 0, 1) := by decide +kernel
theorem dX4_assess_29 : decode cX4_assess 29 = .ok (.aload_n 1, 1) := by decide +kernel
theorem dX4_assess_30 : decode cX4_assess 30 = .ok (.invokevirtual 60, 3) := by decide +kernel
theorem dX4_assess_33 : decode cX4_assess 33 = .ok (.return_, 1) := by decide +kernel
theorem dX4_assume_0 : decode cX4_assume 0 = .ok (.aload_n 0, 1) := by decide +kernel
theorem dX4_assume_1 : decode cX4_assume 1 = .ok (.getfield 9, 3) := by decide +kernel
theorem dX4_assume_4 : decode cX4_assume 4 = .ok (.iload_n 2, 1) := by decide +kernel
theorem dX4_assume_5 : decode cX4_assume 5 = .ok (.iload_n 3, 1) := by decide +kernel
theorem dX4_assume_6 : decode cX4_assume 6 = .ok (.iastore, 1) := by decide +kernel
theorem dX4_assume_7 : decode cX4_assume 7 = .ok (.aload_n 0, 1) := by decide +kernel
theorem dX4_assume_8 : decode cX4_assume 8 = .ok (.aload_n 1, 1) := by decide +kernel
theorem dX4_assume_9 : decode cX4_assume 9 = .ok (.invokevirtual 60, 3) := by decide +kernel
theorem dX4_assume_12 : decode cX4_assume 12 = .ok (.return_, 1) := by decide +kernel
theorem dX4_judge_0 : decode cX4_judge 0 = .ok (.iconst 0, 1) := by decide +kernel
theorem dX4_judge_1 : decode cX4_judge 1 = .ok (.istore_n 2, 1) := by decide +kernel
theorem dX4_judge_2 : decode cX4_judge 2 = .ok (.iload_n 2, 1) := by decide +kernel
theorem dX4_judge_3 : decode cX4_judge 3 = .ok (.aload_n 1, 1) := by decide +kernel
theorem dX4_judge_4 : decode cX4_judge 4 = .ok (.getfield 64, 3) := by decide +kernel
theorem dX4_judge_7 : decode cX4_judge 7 = .ok (.if_icmp .ge 15, 3) := by decide +kernel
theorem dX4_judge_10 : decode cX4_judge 10 = .ok (.aload_n 0, 1) := by decide +kernel
theorem dX4_judge_11 : decode cX4_judge 11 = .ok (.aload_n 1, 1) := by decide +kernel
theorem dX4_judge_12 : decode cX4_judge 12 = .ok (.iload_n 2, 1) := by decide +kernel
theorem dX4_judge_13 : decode cX4_judge 13 = .ok (.invokevirtual 67, 3) := by decide +kernel
theorem dX4_judge_16 : decode cX4_judge 16 = .ok (.iinc 2 1, 3) := by decide +kernel
theorem dX4_judge_19 : decode cX4_judge 19 = .ok (.goto (-17), 3) := by decide +kernel
theorem dX4_judge_22 : decode cX4_judge 22 = .ok (.aload_n 0, 1) := by decide +kernel
theorem dX4_judge_23 : decode cX4_judge 23 = .ok (.aload_n 1, 1) := by decide +kernel
theorem dX4_judge_24 : decode cX4_judge 24 = .ok (.invokevirtual 71, 3) := by decide +kernel
theorem dX4_judge_27 : decode cX4_judge 27 = .ok (.aload_n 0, 1) := by decide +kernel
theorem dX4_judge_28 : decode cX4_judge 28 = .ok (.aload_n 1, 1) := by decide +kernel
theorem dX4_judge_29 : decode cX4_judge 29 = .ok (.invokevirtual 74, 3) := by decide +kernel
theorem dX4_judge_32 : decode cX4_judge 32 = .ok (.aload_n 0, 1) := by decide +kernel
theorem dX4_judge_33 : decode cX4_judge 33 = .ok (.aload_n 1, 1) := by decide +kernel
theorem dX4_judge_34 : decode cX4_judge 34 = .ok (.invokevirtual 77, 3) := by decide +kernel
theorem dX4_judge_37 : decode cX4_judge 37 = .ok (.return_, 1) := by decide +kernel
theorem dX4_weigh_0 : decode cX4_weigh 0 = .ok (.iconst 0, 1) := by decide +kernel
theorem dX4_weigh_1 : decode cX4_weigh 1 = .ok (.istore_n 3, 1) := by decide +kernel
theorem dX4_weigh_2 : decode cX4_weigh 2 = .ok (.iconst 0, 1) := by decide +kernel
theorem dX4_weigh_3 : decode cX4_weigh 3 = .ok (.istore 4, 2) := by decide +kernel
theorem dX4_weigh_5 : decode cX4_weigh 5 = .ok (.iconst 1, 1) := by decide +kernel
theorem dX4_weigh_6 : decode cX4_weigh 6 = .ok (.istore 5, 2) := by decide +kernel
theorem dX4_weigh_8 : decode cX4_weigh 8 = .ok (.iconst 0, 1) := by decide +kernel
theorem dX4_weigh_9 : decode cX4_weigh 9 = .ok (.istore 6, 2) := by decide +kernel
theorem dX4_weigh_11 : decode cX4_weigh 11 = .ok (.iload 6, 2) := by decide +kernel
theorem dX4_weigh_13 : decode cX4_weigh 13 = .ok (.aload_n 1, 1) := by decide +kernel
theorem dX4_weigh_14 : decode cX4_weigh 14 = .ok (.getfield 51, 3) := by decide +kernel
theorem dX4_weigh_17 : decode cX4_weigh 17 = .ok (.if_icmp .ge 73, 3) := by decide +kernel
theorem dX4_weigh_20 : decode cX4_weigh 20 = .ok (.aload_n 1, 1) := by decide +kernel
theorem dX4_weigh_21 : decode cX4_weigh 21 = .ok (.getfield 80, 3) := by decide +kernel
theorem dX4_weigh_24 : decode cX4_weigh 24 = .ok (.iload 6, 2) := by decide +kernel
theorem dX4_weigh_26 : decode cX4_weigh 26 = .ok (.iaload, 1) := by decide +kernel
theorem dX4_weigh_27 : decode cX4_weigh 27 = .ok (.iload_n 2, 1) := by decide +kernel
theorem dX4_weigh_28 : decode cX4_weigh 28 = .ok (.if_icmp .ne 56, 3) := by decide +kernel
theorem dX4_weigh_31 : decode cX4_weigh 31 = .ok (.iload 4, 2) := by decide +kernel
theorem dX4_weigh_33 : decode cX4_weigh 33 = .ok (.aload_n 1, 1) := by decide +kernel
theorem dX4_weigh_34 : decode cX4_weigh 34 = .ok (.getfield 83, 3) := by decide +kernel
theorem dX4_weigh_37 : decode cX4_weigh 37 = .ok (.iload 6, 2) := by decide +kernel
theorem dX4_weigh_39 : decode cX4_weigh 39 = .ok (.iaload, 1) := by decide +kernel
theorem dX4_weigh_40 : decode cX4_weigh 40 = .ok (.iadd, 1) := by decide +kernel
theorem dX4_weigh_41 : decode cX4_weigh 41 = .ok (.istore 4, 2) := by decide +kernel
theorem dX4_weigh_43 : decode cX4_weigh 43 = .ok (.iload_n 3, 1) := by decide +kernel
theorem dX4_weigh_44 : decode cX4_weigh 44 = .ok (.aload_n 1, 1) := by decide +kernel
theorem dX4_weigh_45 : decode cX4_weigh 45 = .ok (.getfield 83, 3) := by decide +kernel
theorem dX4_weigh_48 : decode cX4_weigh 48 = .ok (.iload 6, 2) := by decide +kernel
theorem dX4_weigh_50 : decode cX4_weigh 50 = .ok (.iaload, 1) := by decide +kernel
theorem dX4_weigh_51 : decode cX4_weigh 51 = .ok (.aload_n 0, 1) := by decide +kernel
theorem dX4_weigh_52 : decode cX4_weigh 52 = .ok (.getfield 9, 3) := by decide +kernel
theorem dX4_weigh_55 : decode cX4_weigh 55 = .ok (.iload 6, 2) := by decide +kernel
theorem dX4_weigh_57 : decode cX4_weigh 57 = .ok (.iaload, 1) := by decide +kernel
theorem dX4_weigh_58 : decode cX4_weigh 58 = .ok (.imul, 1) := by decide +kernel
theorem dX4_weigh_59 : decode cX4_weigh 59 = .ok (.iadd, 1) := by decide +kernel
theorem dX4_weigh_60 : decode cX4_weigh 60 = .ok (.istore_n 3, 1) := by decide +kernel
theorem dX4_weigh_61 : decode cX4_weigh 61 = .ok (.iload 5, 2) := by decide +kernel
theorem dX4_weigh_63 : decode cX4_weigh 63 = .ok (.ifCond .eq 18, 3) := by decide +kernel
theorem dX4_weigh_66 : decode cX4_weigh 66 = .ok (.aload_n 0, 1) := by decide +kernel
theorem dX4_weigh_67 : decode cX4_weigh 67 = .ok (.getfield 9, 3) := by decide +kernel
theorem dX4_weigh_70 : decode cX4_weigh 70 = .ok (.iload 6, 2) := by decide +kernel
theorem dX4_weigh_72 : decode cX4_weigh 72 = .ok (.iaload, 1) := by decide +kernel
theorem dX4_weigh_73 : decode cX4_weigh 73 = .ok (.iconst (-1), 1) := by decide +kernel
theorem dX4_weigh_74 : decode cX4_weigh 74 = .ok (.if_icmp .eq 7, 3) := by decide +kernel
theorem dX4_weigh_77 : decode cX4_weigh 77 = .ok (.iconst 1, 1) := by decide +kernel
theorem dX4_weigh_78 : decode cX4_weigh 78 = .ok (.goto 4, 3) := by decide +kernel
theorem dX4_weigh_81 : decode cX4_weigh 81 = .ok (.iconst 0, 1) := by decide +kernel
theorem dX4_weigh_82 : decode cX4_weigh 82 = .ok (.istore 5, 2) := by decide +kernel
theorem dX4_weigh_84 : decode cX4_weigh 84 = .ok (.iinc 6 1, 3) := by decide +kernel
theorem dX4_weigh_87 : decode cX4_weigh 87 = .ok (.goto (-76), 3) := by decide +kernel
theorem dX4_weigh_90 : decode cX4_weigh 90 = .ok (.aload_n 0, 1) := by decide +kernel
theorem dX4_weigh_91 : decode cX4_weigh 91 = .ok (.getfield 21, 3) := by decide +kernel
theorem dX4_weigh_94 : decode cX4_weigh 94 = .ok (.iload_n 2, 1) := by decide +kernel
theorem dX4_weigh_95 : decode cX4_weigh 95 = .ok (.iload 4, 2) := by decide +kernel
theorem dX4_weigh_97 : decode cX4_weigh 97 = .ok (.ifCond .le 7, 3) := by decide +kernel
theorem dX4_weigh_100 : decode cX4_weigh 100 = .ok (.iconst 1, 1) := by decide +kernel
theorem dX4_weigh_101 : decode cX4_weigh 101 = .ok (.goto 4, 3) := by decide +kernel
theorem dX4_weigh_104 : decode cX4_weigh 104 = .ok (.iconst 0, 1) := by decide +kernel
theorem dX4_weigh_105 : decode cX4_weigh 105 = .ok (.bastore, 1) := by decide +kernel
theorem dX4_weigh_106 : decode cX4_weigh 106 = .ok (.aload_n 0, 1) := by decide +kernel
theorem dX4_weigh_107 : decode cX4_weigh 107 = .ok (.getfield 18, 3) := by decide +kernel
theorem dX4_weigh_110 : decode cX4_weigh 110 = .ok (.iload_n 2, 1) := by decide +kernel
theorem dX4_weigh_111 : decode cX4_weigh 111 = .ok (.iload 5, 2) := by decide +kernel
theorem dX4_weigh_113 : decode cX4_weigh 113 = .ok (.ifCond .eq 13, 3) := by decide +kernel
theorem dX4_weigh_116 : decode cX4_weigh 116 = .ok (.iload_n 3, 1) := by decide +kernel
theorem dX4_weigh_117 : decode cX4_weigh 117 = .ok (.iload 4, 2) := by decide +kernel
theorem dX4_weigh_119 : decode cX4_weigh 119 = .ok (.iconst (-1), 1) := by decide +kernel
theorem dX4_weigh_120 : decode cX4_weigh 120 = .ok (.invokestatic 86, 3) := by decide +kernel
theorem dX4_weigh_123 : decode cX4_weigh 123 = .ok (.goto 4, 3) := by decide +kernel
theorem dX4_weigh_126 : decode cX4_weigh 126 = .ok (.iconst (-1), 1) := by decide +kernel
theorem dX4_weigh_127 : decode cX4_weigh 127 = .ok (.iastore, 1) := by decide +kernel
theorem dX4_weigh_128 : decode cX4_weigh 128 = .ok (.return_, 1) := by decide +kernel
theorem dX4_decidePapers_0 : decode cX4_decidePapers 0 = .ok (.aload_n 1, 1) := by decide +kernel
theorem dX4_decidePapers_1 : decode cX4_decidePapers 1 = .ok (.getfield 90, 3) := by decide +kernel
theorem dX4_decidePapers_4 : decode cX4_decidePapers 4 = .ok (.iconst 2, 1) := by decide +kernel
theorem dX4_decidePapers_5 : decode cX4_decidePapers 5 = .ok (.iaload, 1) := by decide +kernel
theorem dX4_decidePapers_6 : decode cX4_decidePapers 6 = .ok (.istore_n 2, 1) := by decide +kernel
theorem dX4_decidePapers_7 : decode cX4_decidePapers 7 = .ok (.iconst 0, 1) := by decide +kernel
theorem dX4_decidePapers_8 : decode cX4_decidePapers 8 = .ok (.istore_n 3, 1) := by decide +kernel
theorem dX4_decidePapers_9 : decode cX4_decidePapers 9 = .ok (.iload_n 3, 1) := by decide +kernel
theorem dX4_decidePapers_10 : decode cX4_decidePapers 10 = .ok (.aload_n 1, 1) := by decide +kernel
theorem dX4_decidePapers_11 : decode cX4_decidePapers 11 = .ok (.getfield 51, 3) := by decide +kernel
theorem dX4_decidePapers_14 : decode cX4_decidePapers 14 = .ok (.if_icmp .ge 87, 3) := by decide +kernel
theorem dX4_decidePapers_17 : decode cX4_decidePapers 17 = .ok (.aload_n 0, 1) := by decide +kernel
theorem dX4_decidePapers_18 : decode cX4_decidePapers 18 = .ok (.getfield 9, 3) := by decide +kernel
theorem dX4_decidePapers_21 : decode cX4_decidePapers 21 = .ok (.iload_n 3, 1) := by decide +kernel
theorem dX4_decidePapers_22 : decode cX4_decidePapers 22 = .ok (.iaload, 1) := by decide +kernel
theorem dX4_decidePapers_23 : decode cX4_decidePapers 23 = .ok (.iconst (-1), 1) := by decide +kernel
theorem dX4_decidePapers_24 : decode cX4_decidePapers 24 = .ok (.if_icmp .ne 13, 3) := by decide +kernel
theorem dX4_decidePapers_27 : decode cX4_decidePapers 27 = .ok (.aload_n 0, 1) := by decide +kernel
theorem dX4_decidePapers_28 : decode cX4_decidePapers 28 = .ok (.getfield 15, 3) := by decide +kernel
theorem dX4_decidePapers_31 : decode cX4_decidePapers 31 = .ok (.iload_n 3, 1) := by decide +kernel
theorem dX4_decidePapers_32 : decode cX4_decidePapers 32 = .ok (.iconst 0, 1) := by decide +kernel
theorem dX4_decidePapers_33 : decode cX4_decidePapers 33 = .ok (.iastore, 1) := by decide +kernel
theorem dX4_decidePapers_34 : decode cX4_decidePapers 34 = .ok (.goto 61, 3) := by decide +kernel
theorem dX4_decidePapers_37 : decode cX4_decidePapers 37 = .ok (.aload_n 0, 1) := by decide +kernel
theorem dX4_decidePapers_38 : decode cX4_decidePapers 38 = .ok (.getfield 9, 3) := by decide +kernel
theorem dX4_decidePapers_41 : decode cX4_decidePapers 41 = .ok (.iload_n 3, 1) := by decide +kernel
theorem dX4_decidePapers_42 : decode cX4_decidePapers 42 = .ok (.iaload, 1) := by decide +kernel
theorem dX4_decidePapers_43 : decode cX4_decidePapers 43 = .ok (.aload_n 1, 1) := by decide +kernel
theorem dX4_decidePapers_44 : decode cX4_decidePapers 44 = .ok (.getfield 90, 3) := by decide +kernel
theorem dX4_decidePapers_47 : decode cX4_decidePapers 47 = .ok (.iconst 0, 1) := by decide +kernel
theorem dX4_decidePapers_48 : decode cX4_decidePapers 48 = .ok (.iaload, 1) := by decide +kernel
theorem dX4_decidePapers_49 : decode cX4_decidePapers 49 = .ok (.if_icmp .lt 13, 3) := by decide +kernel
theorem dX4_decidePapers_52 : decode cX4_decidePapers 52 = .ok (.aload_n 0, 1) := by decide +kernel
theorem dX4_decidePapers_53 : decode cX4_decidePapers 53 = .ok (.getfield 15, 3) := by decide +kernel
theorem dX4_decidePapers_56 : decode cX4_decidePapers 56 = .ok (.iload_n 3, 1) := by decide +kernel
theorem dX4_decidePapers_57 : decode cX4_decidePapers 57 = .ok (.iconst 1, 1) := by decide +kernel
theorem dX4_decidePapers_58 : decode cX4_decidePapers 58 = .ok (.iastore, 1) := by decide +kernel
theorem dX4_decidePapers_59 : decode cX4_decidePapers 59 = .ok (.goto 36, 3) := by decide +kernel
theorem dX4_decidePapers_62 : decode cX4_decidePapers 62 = .ok (.iload_n 2, 1) := by decide +kernel
theorem dX4_decidePapers_63 : decode cX4_decidePapers 63 = .ok (.ifCond .le 25, 3) := by decide +kernel
theorem dX4_decidePapers_66 : decode cX4_decidePapers 66 = .ok (.aload_n 0, 1) := by decide +kernel
theorem dX4_decidePapers_67 : decode cX4_decidePapers 67 = .ok (.aload_n 1, 1) := by decide +kernel
theorem dX4_decidePapers_68 : decode cX4_decidePapers 68 = .ok (.iload_n 3, 1) := by decide +kernel
theorem dX4_decidePapers_69 : decode cX4_decidePapers 69 = .ok (.invokevirtual 93, 3) := by decide +kernel
theorem dX4_decidePapers_72 : decode cX4_decidePapers 72 = .ok (.ifCond .eq 16, 3) := by decide +kernel
theorem dX4_decidePapers_75 : decode cX4_decidePapers 75 = .ok (.aload_n 0, 1) := by decide +kernel
theorem dX4_decidePapers_76 : decode cX4_decidePapers 76 = .ok (.getfield 15, 3) := by decide +kernel
theorem dX4_decidePapers_79 : decode cX4_decidePapers 79 = .ok (.iload_n 3, 1) := by decide +kernel
theorem dX4_decidePapers_80 : decode cX4_decidePapers 80 = .ok (.iconst 2, 1) := by decide +kernel
theorem dX4_decidePapers_81 : decode cX4_decidePapers 81 = .ok (.iastore, 1) := by decide +kernel
theorem dX4_decidePapers_82 : decode cX4_decidePapers 82 = .ok (.iinc 2 (-1), 3) := by decide +kernel
theorem dX4_decidePapers_85 : decode cX4_decidePapers 85 = .ok (.goto 10, 3) := by decide +kernel
theorem dX4_decidePapers_88 : decode cX4_decidePapers 88 = .ok (.aload_n 0, 1) := by decide +kernel
theorem dX4_decidePapers_89 : decode cX4_decidePapers 89 = .ok (.getfield 15, 3) := by decide +kernel
theorem dX4_decidePapers_92 : decode cX4_decidePapers 92 = .ok (.iload_n 3, 1) := by decide +kernel
theorem dX4_decidePapers_93 : decode cX4_decidePapers 93 = .ok (.iconst 3, 1) := by decide +kernel
theorem dX4_decidePapers_94 : decode cX4_decidePapers 94 = .ok (.iastore, 1) := by decide +kernel
theorem dX4_decidePapers_95 : decode cX4_decidePapers 95 = .ok (.iinc 3 1, 3) := by decide +kernel
theorem dX4_decidePapers_98 : decode cX4_decidePapers 98 = .ok (.goto (-89), 3) := by decide +kernel
theorem dX4_decidePapers_101 : decode cX4_decidePapers 101 = .ok (.return_, 1) := by decide +kernel
theorem dX4_isCompensable_0 : decode cX4_isCompensable 0 = .ok (.aload_n 0, 1) := by decide +kernel
theorem dX4_isCompensable_1 : decode cX4_isCompensable 1 = .ok (.getfield 9, 3) := by decide +kernel
theorem dX4_isCompensable_4 : decode cX4_isCompensable 4 = .ok (.iload_n 2, 1) := by decide +kernel
theorem dX4_isCompensable_5 : decode cX4_isCompensable 5 = .ok (.iaload, 1) := by decide +kernel
theorem dX4_isCompensable_6 : decode cX4_isCompensable 6 = .ok (.aload_n 1, 1) := by decide +kernel
theorem dX4_isCompensable_7 : decode cX4_isCompensable 7 = .ok (.getfield 90, 3) := by decide +kernel
theorem dX4_isCompensable_10 : decode cX4_isCompensable 10 = .ok (.iconst 1, 1) := by decide +kernel
theorem dX4_isCompensable_11 : decode cX4_isCompensable 11 = .ok (.iaload, 1) := by decide +kernel
theorem dX4_isCompensable_12 : decode cX4_isCompensable 12 = .ok (.if_icmp .lt 27, 3) := by decide +kernel
theorem dX4_isCompensable_15 : decode cX4_isCompensable 15 = .ok (.aload_n 0, 1) := by decide +kernel
theorem dX4_isCompensable_16 : decode cX4_isCompensable 16 = .ok (.getfield 18, 3) := by decide +kernel
theorem dX4_isCompensable_19 : decode cX4_isCompensable 19 = .ok (.aload_n 1, 1) := by decide +kernel
theorem dX4_isCompensable_20 : decode cX4_isCompensable 20 = .ok (.getfield 80, 3) := by decide +kernel
theorem dX4_isCompensable_23 : decode cX4_isCompensable 23 = .ok (.iload_n 2, 1) := by decide +kernel
theorem dX4_isCompensable_24 : decode cX4_isCompensable 24 = .ok (.iaload, 1) := by decide +kernel
theorem dX4_isCompensable_25 : decode cX4_isCompensable 25 = .ok (.iaload, 1) := by decide +kernel
theorem dX4_isCompensable_26 : decode cX4_isCompensable 26 = .ok (.aload_n 1, 1) := by decide +kernel
theorem dX4_isCompensable_27 : decode cX4_isCompensable 27 = .ok (.getfield 90, 3) := by decide +kernel
theorem dX4_isCompensable_30 : decode cX4_isCompensable 30 = .ok (.iconst 0, 1) := by decide +kernel
theorem dX4_isCompensable_31 : decode cX4_isCompensable 31 = .ok (.iaload, 1) := by decide +kernel
theorem dX4_isCompensable_32 : decode cX4_isCompensable 32 = .ok (.if_icmp .lt 7, 3) := by decide +kernel
theorem dX4_isCompensable_35 : decode cX4_isCompensable 35 = .ok (.iconst 1, 1) := by decide +kernel
theorem dX4_isCompensable_36 : decode cX4_isCompensable 36 = .ok (.goto 4, 3) := by decide +kernel
theorem dX4_isCompensable_39 : decode cX4_isCompensable 39 = .ok (.iconst 0, 1) := by decide +kernel
theorem dX4_isCompensable_40 : decode cX4_isCompensable 40 = .ok (.ireturn, 1) := by decide +kernel
theorem dX4_sumUp_0 : decode cX4_sumUp 0 = .ok (.aload_n 0, 1) := by decide +kernel
theorem dX4_sumUp_1 : decode cX4_sumUp 1 = .ok (.iconst 0, 1) := by decide +kernel
theorem dX4_sumUp_2 : decode cX4_sumUp 2 = .ok (.putfield 25, 3) := by decide +kernel
theorem dX4_sumUp_5 : decode cX4_sumUp 5 = .ok (.aload_n 0, 1) := by decide +kernel
theorem dX4_sumUp_6 : decode cX4_sumUp 6 = .ok (.iconst 0, 1) := by decide +kernel
theorem dX4_sumUp_7 : decode cX4_sumUp 7 = .ok (.putfield 29, 3) := by decide +kernel
theorem dX4_sumUp_10 : decode cX4_sumUp 10 = .ok (.aload_n 0, 1) := by decide +kernel
theorem dX4_sumUp_11 : decode cX4_sumUp 11 = .ok (.iconst 0, 1) := by decide +kernel
theorem dX4_sumUp_12 : decode cX4_sumUp 12 = .ok (.putfield 32, 3) := by decide +kernel
theorem dX4_sumUp_15 : decode cX4_sumUp 15 = .ok (.aload_n 0, 1) := by decide +kernel
theorem dX4_sumUp_16 : decode cX4_sumUp 16 = .ok (.iconst 1, 1) := by decide +kernel
theorem dX4_sumUp_17 : decode cX4_sumUp 17 = .ok (.putfield 35, 3) := by decide +kernel
theorem dX4_sumUp_20 : decode cX4_sumUp 20 = .ok (.aload_n 0, 1) := by decide +kernel
theorem dX4_sumUp_21 : decode cX4_sumUp 21 = .ok (.iconst 1, 1) := by decide +kernel
theorem dX4_sumUp_22 : decode cX4_sumUp 22 = .ok (.putfield 39, 3) := by decide +kernel
theorem dX4_sumUp_25 : decode cX4_sumUp 25 = .ok (.iconst 0, 1) := by decide +kernel
theorem dX4_sumUp_26 : decode cX4_sumUp 26 = .ok (.istore_n 2, 1) := by decide +kernel
theorem dX4_sumUp_27 : decode cX4_sumUp 27 = .ok (.iload_n 2, 1) := by decide +kernel
theorem dX4_sumUp_28 : decode cX4_sumUp 28 = .ok (.aload_n 1, 1) := by decide +kernel
theorem dX4_sumUp_29 : decode cX4_sumUp 29 = .ok (.getfield 64, 3) := by decide +kernel
theorem dX4_sumUp_32 : decode cX4_sumUp 32 = .ok (.if_icmp .ge 106, 3) := by decide +kernel
theorem dX4_sumUp_35 : decode cX4_sumUp 35 = .ok (.aload_n 0, 1) := by decide +kernel
theorem dX4_sumUp_36 : decode cX4_sumUp 36 = .ok (.getfield 21, 3) := by decide +kernel
theorem dX4_sumUp_39 : decode cX4_sumUp 39 = .ok (.iload_n 2, 1) := by decide +kernel
theorem dX4_sumUp_40 : decode cX4_sumUp 40 = .ok (.baload, 1) := by decide +kernel
theorem dX4_sumUp_41 : decode cX4_sumUp 41 = .ok (.ifCond .ne 6, 3) := by decide +kernel
theorem dX4_sumUp_44 : decode cX4_sumUp 44 = .ok (.goto 88, 3) := by decide +kernel
theorem dX4_sumUp_47 : decode cX4_sumUp 47 = .ok (.aload_n 0, 1) := by decide +kernel
theorem dX4_sumUp_48 : decode cX4_sumUp 48 = .ok (.dup, 1) := by decide +kernel
theorem dX4_sumUp_49 : decode cX4_sumUp 49 = .ok (.getfield 25, 3) := by decide +kernel
theorem dX4_sumUp_52 : decode cX4_sumUp 52 = .ok (.aload_n 1, 1) := by decide +kernel
theorem dX4_sumUp_53 : decode cX4_sumUp 53 = .ok (.getfield 97, 3) := by decide +kernel
theorem dX4_sumUp_56 : decode cX4_sumUp 56 = .ok (.iload_n 2, 1) := by decide +kernel
theorem dX4_sumUp_57 : decode cX4_sumUp 57 = .ok (.iaload, 1) := by decide +kernel
theorem dX4_sumUp_58 : decode cX4_sumUp 58 = .ok (.iadd, 1) := by decide +kernel
theorem dX4_sumUp_59 : decode cX4_sumUp 59 = .ok (.putfield 25, 3) := by decide +kernel
theorem dX4_sumUp_62 : decode cX4_sumUp 62 = .ok (.aload_n 0, 1) := by decide +kernel
theorem dX4_sumUp_63 : decode cX4_sumUp 63 = .ok (.iload_n 2, 1) := by decide +kernel
theorem dX4_sumUp_64 : decode cX4_sumUp 64 = .ok (.invokevirtual 99, 3) := by decide +kernel
theorem dX4_sumUp_67 : decode cX4_sumUp 67 = .ok (.ifCond .eq 28, 3) := by decide +kernel
theorem dX4_sumUp_70 : decode cX4_sumUp 70 = .ok (.aload_n 0, 1) := by decide +kernel
theorem dX4_sumUp_71 : decode cX4_sumUp 71 = .ok (.dup, 1) := by decide +kernel
theorem dX4_sumUp_72 : decode cX4_sumUp 72 = .ok (.getfield 29, 3) := by decide +kernel
theorem dX4_sumUp_75 : decode cX4_sumUp 75 = .ok (.aload_n 0, 1) := by decide +kernel
theorem dX4_sumUp_76 : decode cX4_sumUp 76 = .ok (.getfield 18, 3) := by decide +kernel
theorem dX4_sumUp_79 : decode cX4_sumUp 79 = .ok (.iload_n 2, 1) := by decide +kernel
theorem dX4_sumUp_80 : decode cX4_sumUp 80 = .ok (.iaload, 1) := by decide +kernel
theorem dX4_sumUp_81 : decode cX4_sumUp 81 = .ok (.aload_n 1, 1) := by decide +kernel
theorem dX4_sumUp_82 : decode cX4_sumUp 82 = .ok (.getfield 97, 3) := by decide +kernel
theorem dX4_sumUp_85 : decode cX4_sumUp 85 = .ok (.iload_n 2, 1) := by decide +kernel
theorem dX4_sumUp_86 : decode cX4_sumUp 86 = .ok (.iaload, 1) := by decide +kernel
theorem dX4_sumUp_87 : decode cX4_sumUp 87 = .ok (.imul, 1) := by decide +kernel
theorem dX4_sumUp_88 : decode cX4_sumUp 88 = .ok (.iadd, 1) := by decide +kernel
theorem dX4_sumUp_89 : decode cX4_sumUp 89 = .ok (.putfield 29, 3) := by decide +kernel
theorem dX4_sumUp_92 : decode cX4_sumUp 92 = .ok (.goto 8, 3) := by decide +kernel
theorem dX4_sumUp_95 : decode cX4_sumUp 95 = .ok (.aload_n 0, 1) := by decide +kernel
theorem dX4_sumUp_96 : decode cX4_sumUp 96 = .ok (.iconst 0, 1) := by decide +kernel
theorem dX4_sumUp_97 : decode cX4_sumUp 97 = .ok (.putfield 35, 3) := by decide +kernel
theorem dX4_sumUp_100 : decode cX4_sumUp 100 = .ok (.aload_n 0, 1) := by decide +kernel
theorem dX4_sumUp_101 : decode cX4_sumUp 101 = .ok (.aload_n 1, 1) := by decide +kernel
theorem dX4_sumUp_102 : decode cX4_sumUp 102 = .ok (.iload_n 2, 1) := by decide +kernel
theorem dX4_sumUp_103 : decode cX4_sumUp 103 = .ok (.invokevirtual 103, 3) := by decide +kernel
theorem dX4_sumUp_106 : decode cX4_sumUp 106 = .ok (.ifCond .eq 21, 3) := by decide +kernel
theorem dX4_sumUp_109 : decode cX4_sumUp 109 = .ok (.aload_n 0, 1) := by decide +kernel
theorem dX4_sumUp_110 : decode cX4_sumUp 110 = .ok (.dup, 1) := by decide +kernel
theorem dX4_sumUp_111 : decode cX4_sumUp 111 = .ok (.getfield 32, 3) := by decide +kernel
theorem dX4_sumUp_114 : decode cX4_sumUp 114 = .ok (.aload_n 1, 1) := by decide +kernel
theorem dX4_sumUp_115 : decode cX4_sumUp 115 = .ok (.getfield 97, 3) := by decide +kernel
theorem dX4_sumUp_118 : decode cX4_sumUp 118 = .ok (.iload_n 2, 1) := by decide +kernel
theorem dX4_sumUp_119 : decode cX4_sumUp 119 = .ok (.iaload, 1) := by decide +kernel
theorem dX4_sumUp_120 : decode cX4_sumUp 120 = .ok (.iadd, 1) := by decide +kernel
theorem dX4_sumUp_121 : decode cX4_sumUp 121 = .ok (.putfield 32, 3) := by decide +kernel
theorem dX4_sumUp_124 : decode cX4_sumUp 124 = .ok (.goto 8, 3) := by decide +kernel
theorem dX4_sumUp_127 : decode cX4_sumUp 127 = .ok (.aload_n 0, 1) := by decide +kernel
theorem dX4_sumUp_128 : decode cX4_sumUp 128 = .ok (.iconst 0, 1) := by decide +kernel
theorem dX4_sumUp_129 : decode cX4_sumUp 129 = .ok (.putfield 39, 3) := by decide +kernel
theorem dX4_sumUp_132 : decode cX4_sumUp 132 = .ok (.iinc 2 1, 3) := by decide +kernel
theorem dX4_sumUp_135 : decode cX4_sumUp 135 = .ok (.goto (-108), 3) := by decide +kernel
theorem dX4_sumUp_138 : decode cX4_sumUp 138 = .ok (.aload_n 0, 1) := by decide +kernel
theorem dX4_sumUp_139 : decode cX4_sumUp 139 = .ok (.aload_n 0, 1) := by decide +kernel
theorem dX4_sumUp_140 : decode cX4_sumUp 140 = .ok (.getfield 35, 3) := by decide +kernel
theorem dX4_sumUp_143 : decode cX4_sumUp 143 = .ok (.ifCond .eq 14, 3) := by decide +kernel
theorem dX4_sumUp_146 : decode cX4_sumUp 146 = .ok (.aload_n 0, 1) := by decide +kernel
theorem dX4_sumUp_147 : decode cX4_sumUp 147 = .ok (.getfield 25, 3) := by decide +kernel
theorem dX4_sumUp_150 : decode cX4_sumUp 150 = .ok (.ifCond .le 7, 3) := by decide +kernel
theorem dX4_sumUp_153 : decode cX4_sumUp 153 = .ok (.iconst 1, 1) := by decide +kernel
theorem dX4_sumUp_154 : decode cX4_sumUp 154 = .ok (.goto 4, 3) := by decide +kernel
theorem dX4_sumUp_157 : decode cX4_sumUp 157 = .ok (.iconst 0, 1) := by decide +kernel
theorem dX4_sumUp_158 : decode cX4_sumUp 158 = .ok (.putfield 35, 3) := by decide +kernel
theorem dX4_sumUp_161 : decode cX4_sumUp 161 = .ok (.return_, 1) := by decide +kernel
theorem dX4_classify_0 : decode cX4_classify 0 = .ok (.aload_n 0, 1) := by decide +kernel
theorem dX4_classify_1 : decode cX4_classify 1 = .ok (.iconst 0, 1) := by decide +kernel
theorem dX4_classify_2 : decode cX4_classify 2 = .ok (.putfield 48, 3) := by decide +kernel
theorem dX4_classify_5 : decode cX4_classify 5 = .ok (.aload_n 0, 1) := by decide +kernel
theorem dX4_classify_6 : decode cX4_classify 6 = .ok (.aload_n 0, 1) := by decide +kernel
theorem dX4_classify_7 : decode cX4_classify 7 = .ok (.getfield 35, 3) := by decide +kernel
theorem dX4_classify_10 : decode cX4_classify 10 = .ok (.ifCond .eq 25, 3) := by decide +kernel
theorem dX4_classify_13 : decode cX4_classify 13 = .ok (.aload_n 0, 1) := by decide +kernel
theorem dX4_classify_14 : decode cX4_classify 14 = .ok (.getfield 25, 3) := by decide +kernel
theorem dX4_classify_17 : decode cX4_classify 17 = .ok (.ifCond .le 18, 3) := by decide +kernel
theorem dX4_classify_20 : decode cX4_classify 20 = .ok (.bipush 100, 2) := by decide +kernel
theorem dX4_classify_22 : decode cX4_classify 22 = .ok (.aload_n 0, 1) := by decide +kernel
theorem dX4_classify_23 : decode cX4_classify 23 = .ok (.getfield 29, 3) := by decide +kernel
theorem dX4_classify_26 : decode cX4_classify 26 = .ok (.imul, 1) := by decide +kernel
theorem dX4_classify_27 : decode cX4_classify 27 = .ok (.aload_n 0, 1) := by decide +kernel
theorem dX4_classify_28 : decode cX4_classify 28 = .ok (.getfield 25, 3) := by decide +kernel
theorem dX4_classify_31 : decode cX4_classify 31 = .ok (.idiv, 1) := by decide +kernel
theorem dX4_classify_32 : decode cX4_classify 32 = .ok (.goto 4, 3) := by decide +kernel
theorem dX4_classify_35 : decode cX4_classify 35 = .ok (.iconst 0, 1) := by decide +kernel
theorem dX4_classify_36 : decode cX4_classify 36 = .ok (.putfield 42, 3) := by decide +kernel
theorem dX4_classify_39 : decode cX4_classify 39 = .ok (.aload_n 0, 1) := by decide +kernel
theorem dX4_classify_40 : decode cX4_classify 40 = .ok (.getfield 35, 3) := by decide +kernel
theorem dX4_classify_43 : decode cX4_classify 43 = .ok (.ifCond .ne 9, 3) := by decide +kernel
theorem dX4_classify_46 : decode cX4_classify 46 = .ok (.aload_n 0, 1) := by decide +kernel
theorem dX4_classify_47 : decode cX4_classify 47 = .ok (.iconst 0, 1) := by decide +kernel
theorem dX4_classify_48 : decode cX4_classify 48 = .ok (.putfield 45, 3) := by decide +kernel
theorem dX4_classify_51 : decode cX4_classify 51 = .ok (.return_, 1) := by decide +kernel
theorem dX4_classify_52 : decode cX4_classify 52 = .ok (.aload_n 0, 1) := by decide +kernel
theorem dX4_classify_53 : decode cX4_classify 53 = .ok (.getfield 39, 3) := by decide +kernel
theorem dX4_classify_56 : decode cX4_classify 56 = .ok (.ifCond .ne 9, 3) := by decide +kernel
theorem dX4_classify_59 : decode cX4_classify 59 = .ok (.aload_n 0, 1) := by decide +kernel
theorem dX4_classify_60 : decode cX4_classify 60 = .ok (.iconst 5, 1) := by decide +kernel
theorem dX4_classify_61 : decode cX4_classify 61 = .ok (.putfield 45, 3) := by decide +kernel
theorem dX4_classify_64 : decode cX4_classify 64 = .ok (.return_, 1) := by decide +kernel
theorem dX4_classify_65 : decode cX4_classify 65 = .ok (.aload_n 0, 1) := by decide +kernel
theorem dX4_classify_66 : decode cX4_classify 66 = .ok (.aload_n 0, 1) := by decide +kernel
theorem dX4_classify_67 : decode cX4_classify 67 = .ok (.invokevirtual 106, 3) := by decide +kernel
theorem dX4_classify_70 : decode cX4_classify 70 = .ok (.putfield 45, 3) := by decide +kernel
theorem dX4_classify_73 : decode cX4_classify 73 = .ok (.aload_n 0, 1) := by decide +kernel
theorem dX4_classify_74 : decode cX4_classify 74 = .ok (.getfield 45, 3) := by decide +kernel
theorem dX4_classify_77 : decode cX4_classify 77 = .ok (.iconst 1, 1) := by decide +kernel
theorem dX4_classify_78 : decode cX4_classify 78 = .ok (.if_icmp .le 36, 3) := by decide +kernel
theorem dX4_classify_81 : decode cX4_classify 81 = .ok (.aload_n 0, 1) := by decide +kernel
theorem dX4_classify_82 : decode cX4_classify 82 = .ok (.aload_n 1, 1) := by decide +kernel
theorem dX4_classify_83 : decode cX4_classify 83 = .ok (.getstatic 110, 3) := by decide +kernel
theorem dX4_classify_86 : decode cX4_classify 86 = .ok (.aload_n 0, 1) := by decide +kernel
theorem dX4_classify_87 : decode cX4_classify 87 = .ok (.getfield 45, 3) := by decide +kernel
theorem dX4_classify_90 : decode cX4_classify 90 = .ok (.iconst 1, 1) := by decide +kernel
theorem dX4_classify_91 : decode cX4_classify 91 = .ok (.isub, 1) := by decide +kernel
theorem dX4_classify_92 : decode cX4_classify 92 = .ok (.iaload, 1) := by decide +kernel
theorem dX4_classify_93 : decode cX4_classify 93 = .ok (.invokevirtual 113, 3) := by decide +kernel
theorem dX4_classify_96 : decode cX4_classify 96 = .ok (.ifCond .eq 18, 3) := by decide +kernel
theorem dX4_classify_99 : decode cX4_classify 99 = .ok (.aload_n 0, 1) := by decide +kernel
theorem dX4_classify_100 : decode cX4_classify 100 = .ok (.dup, 1) := by decide +kernel
theorem dX4_classify_101 : decode cX4_classify 101 = .ok (.getfield 45, 3) := by decide +kernel
theorem dX4_classify_104 : decode cX4_classify 104 = .ok (.iconst 1, 1) := by decide +kernel
theorem dX4_classify_105 : decode cX4_classify 105 = .ok (.isub, 1) := by decide +kernel
theorem dX4_classify_106 : decode cX4_classify 106 = .ok (.putfield 45, 3) := by decide +kernel
theorem dX4_classify_109 : decode cX4_classify 109 = .ok (.aload_n 0, 1) := by decide +kernel
theorem dX4_classify_110 : decode cX4_classify 110 = .ok (.iconst 1, 1) := by decide +kernel
theorem dX4_classify_111 : decode cX4_classify 111 = .ok (.putfield 48, 3) := by decide +kernel
theorem dX4_classify_114 : decode cX4_classify 114 = .ok (.return_, 1) := by decide +kernel
theorem dX4_gradeOfAverage_0 : decode cX4_gradeOfAverage 0 = .ok (.iconst 1, 1) := by decide +kernel
theorem dX4_gradeOfAverage_1 : decode cX4_gradeOfAverage 1 = .ok (.istore_n 1, 1) := by decide +kernel
theorem dX4_gradeOfAverage_2 : decode cX4_gradeOfAverage 2 = .ok (.iload_n 1, 1) := by decide +kernel
theorem dX4_gradeOfAverage_3 : decode cX4_gradeOfAverage 3 = .ok (.iconst 4, 1) := by decide +kernel
theorem dX4_gradeOfAverage_4 : decode cX4_gradeOfAverage 4 = .ok (.if_icmp .ge 26, 3) := by decide +kernel
theorem dX4_gradeOfAverage_7 : decode cX4_gradeOfAverage 7 = .ok (.aload_n 0, 1) := by decide +kernel
theorem dX4_gradeOfAverage_8 : decode cX4_gradeOfAverage 8 = .ok (.getfield 42, 3) := by decide +kernel
theorem dX4_gradeOfAverage_11 : decode cX4_gradeOfAverage 11 = .ok (.bipush 100, 2) := by decide +kernel
theorem dX4_gradeOfAverage_13 : decode cX4_gradeOfAverage 13 = .ok (.getstatic 110, 3) := by decide +kernel
theorem dX4_gradeOfAverage_16 : decode cX4_gradeOfAverage 16 = .ok (.iload_n 1, 1) := by decide +kernel
theorem dX4_gradeOfAverage_17 : decode cX4_gradeOfAverage 17 = .ok (.iaload, 1) := by decide +kernel
theorem dX4_gradeOfAverage_18 : decode cX4_gradeOfAverage 18 = .ok (.imul, 1) := by decide +kernel
theorem dX4_gradeOfAverage_19 : decode cX4_gradeOfAverage 19 = .ok (.if_icmp .lt 5, 3) := by decide +kernel
theorem dX4_gradeOfAverage_22 : decode cX4_gradeOfAverage 22 = .ok (.iload_n 1, 1) := by decide +kernel
theorem dX4_gradeOfAverage_23 : decode cX4_gradeOfAverage 23 = .ok (.ireturn, 1) := by decide +kernel
theorem dX4_gradeOfAverage_24 : decode cX4_gradeOfAverage 24 = .ok (.iinc 1 1, 3) := by decide +kernel
theorem dX4_gradeOfAverage_27 : decode cX4_gradeOfAverage 27 = .ok (.goto (-25), 3) := by decide +kernel
theorem dX4_gradeOfAverage_30 : decode cX4_gradeOfAverage 30 = .ok (.iconst 4, 1) := by decide +kernel
theorem dX4_gradeOfAverage_31 : decode cX4_gradeOfAverage 31 = .ok (.ireturn, 1) := by decide +kernel
theorem dX4_isAtBorder_0 : decode cX4_isAtBorder 0 = .ok (.bipush 100, 2) := by decide +kernel
theorem dX4_isAtBorder_2 : decode cX4_isAtBorder 2 = .ok (.iload_n 2, 1) := by decide +kernel
theorem dX4_isAtBorder_3 : decode cX4_isAtBorder 3 = .ok (.imul, 1) := by decide +kernel
theorem dX4_isAtBorder_4 : decode cX4_isAtBorder 4 = .ok (.aload_n 0, 1) := by decide +kernel
theorem dX4_isAtBorder_5 : decode cX4_isAtBorder 5 = .ok (.getfield 42, 3) := by decide +kernel
theorem dX4_isAtBorder_8 : decode cX4_isAtBorder 8 = .ok (.isub, 1) := by decide +kernel
theorem dX4_isAtBorder_9 : decode cX4_isAtBorder 9 = .ok (.bipush 100, 2) := by decide +kernel
theorem dX4_isAtBorder_11 : decode cX4_isAtBorder 11 = .ok (.aload_n 1, 1) := by decide +kernel
theorem dX4_isAtBorder_12 : decode cX4_isAtBorder 12 = .ok (.getfield 90, 3) := by decide +kernel
theorem dX4_isAtBorder_15 : decode cX4_isAtBorder 15 = .ok (.iconst 3, 1) := by decide +kernel
theorem dX4_isAtBorder_16 : decode cX4_isAtBorder 16 = .ok (.iaload, 1) := by decide +kernel
theorem dX4_isAtBorder_17 : decode cX4_isAtBorder 17 = .ok (.imul, 1) := by decide +kernel
theorem dX4_isAtBorder_18 : decode cX4_isAtBorder 18 = .ok (.if_icmp .gt 16, 3) := by decide +kernel
theorem dX4_isAtBorder_21 : decode cX4_isAtBorder 21 = .ok (.aload_n 0, 1) := by decide +kernel
theorem dX4_isAtBorder_22 : decode cX4_isAtBorder 22 = .ok (.aload_n 1, 1) := by decide +kernel
theorem dX4_isAtBorder_23 : decode cX4_isAtBorder 23 = .ok (.iload_n 2, 1) := by decide +kernel
theorem dX4_isAtBorder_24 : decode cX4_isAtBorder 24 = .ok (.invokevirtual 116, 3) := by decide +kernel
theorem dX4_isAtBorder_27 : decode cX4_isAtBorder 27 = .ok (.ifCond .eq 7, 3) := by decide +kernel
theorem dX4_isAtBorder_30 : decode cX4_isAtBorder 30 = .ok (.iconst 1, 1) := by decide +kernel
theorem dX4_isAtBorder_31 : decode cX4_isAtBorder 31 = .ok (.goto 4, 3) := by decide +kernel
theorem dX4_isAtBorder_34 : decode cX4_isAtBorder 34 = .ok (.iconst 0, 1) := by decide +kernel
theorem dX4_isAtBorder_35 : decode cX4_isAtBorder 35 = .ok (.ireturn, 1) := by decide +kernel
theorem dX4_hasHalfFrom_0 : decode cX4_hasHalfFrom 0 = .ok (.iconst 0, 1) := by decide +kernel
theorem dX4_hasHalfFrom_1 : decode cX4_hasHalfFrom 1 = .ok (.istore_n 3, 1) := by decide +kernel
theorem dX4_hasHalfFrom_2 : decode cX4_hasHalfFrom 2 = .ok (.iconst 0, 1) := by decide +kernel
theorem dX4_hasHalfFrom_3 : decode cX4_hasHalfFrom 3 = .ok (.istore 4, 2) := by decide +kernel
theorem dX4_hasHalfFrom_5 : decode cX4_hasHalfFrom 5 = .ok (.iload 4, 2) := by decide +kernel
theorem dX4_hasHalfFrom_7 : decode cX4_hasHalfFrom 7 = .ok (.aload_n 1, 1) := by decide +kernel
theorem dX4_hasHalfFrom_8 : decode cX4_hasHalfFrom 8 = .ok (.getfield 64, 3) := by decide +kernel
theorem dX4_hasHalfFrom_11 : decode cX4_hasHalfFrom 11 = .ok (.if_icmp .ge 40, 3) := by decide +kernel
theorem dX4_hasHalfFrom_14 : decode cX4_hasHalfFrom 14 = .ok (.aload_n 0, 1) := by decide +kernel
theorem dX4_hasHalfFrom_15 : decode cX4_hasHalfFrom 15 = .ok (.getfield 21, 3) := by decide +kernel
theorem dX4_hasHalfFrom_18 : decode cX4_hasHalfFrom 18 = .ok (.iload 4, 2) := by decide +kernel
theorem dX4_hasHalfFrom_20 : decode cX4_hasHalfFrom 20 = .ok (.baload, 1) := by decide +kernel
theorem dX4_hasHalfFrom_21 : decode cX4_hasHalfFrom 21 = .ok (.ifCond .eq 24, 3) := by decide +kernel
theorem dX4_hasHalfFrom_24 : decode cX4_hasHalfFrom 24 = .ok (.aload_n 0, 1) := by decide +kernel
theorem dX4_hasHalfFrom_25 : decode cX4_hasHalfFrom 25 = .ok (.getfield 18, 3) := by decide +kernel
theorem dX4_hasHalfFrom_28 : decode cX4_hasHalfFrom 28 = .ok (.iload 4, 2) := by decide +kernel
theorem dX4_hasHalfFrom_30 : decode cX4_hasHalfFrom 30 = .ok (.iaload, 1) := by decide +kernel
theorem dX4_hasHalfFrom_31 : decode cX4_hasHalfFrom 31 = .ok (.iload_n 2, 1) := by decide +kernel
theorem dX4_hasHalfFrom_32 : decode cX4_hasHalfFrom 32 = .ok (.if_icmp .lt 13, 3) := by decide +kernel
theorem dX4_hasHalfFrom_35 : decode cX4_hasHalfFrom 35 = .ok (.iload_n 3, 1) := by decide +kernel
theorem dX4_hasHalfFrom_36 : decode cX4_hasHalfFrom 36 = .ok (.aload_n 1, 1) := by decide +kernel
theorem dX4_hasHalfFrom_37 : decode cX4_hasHalfFrom 37 = .ok (.getfield 97, 3) := by decide +kernel
theorem dX4_hasHalfFrom_40 : decode cX4_hasHalfFrom 40 = .ok (.iload 4, 2) := by decide +kernel
theorem dX4_hasHalfFrom_42 : decode cX4_hasHalfFrom 42 = .ok (.iaload, 1) := by decide +kernel
theorem dX4_hasHalfFrom_43 : decode cX4_hasHalfFrom 43 = .ok (.iadd, 1) := by decide +kernel
theorem dX4_hasHalfFrom_44 : decode cX4_hasHalfFrom 44 = .ok (.istore_n 3, 1) := by decide +kernel
theorem dX4_hasHalfFrom_45 : decode cX4_hasHalfFrom 45 = .ok (.iinc 4 1, 3) := by decide +kernel
theorem dX4_hasHalfFrom_48 : decode cX4_hasHalfFrom 48 = .ok (.goto (-43), 3) := by decide +kernel
theorem dX4_hasHalfFrom_51 : decode cX4_hasHalfFrom 51 = .ok (.iconst 2, 1) := by decide +kernel
theorem dX4_hasHalfFrom_52 : decode cX4_hasHalfFrom 52 = .ok (.iload_n 3, 1) := by decide +kernel
theorem dX4_hasHalfFrom_53 : decode cX4_hasHalfFrom 53 = .ok (.imul, 1) := by decide +kernel
theorem dX4_hasHalfFrom_54 : decode cX4_hasHalfFrom 54 = .ok (.aload_n 0, 1) := by decide +kernel
theorem dX4_hasHalfFrom_55 : decode cX4_hasHalfFrom 55 = .ok (.getfield 25, 3) := by decide +kernel
theorem dX4_hasHalfFrom_58 : decode cX4_hasHalfFrom 58 = .ok (.if_icmp .lt 7, 3) := by decide +kernel
theorem dX4_hasHalfFrom_61 : decode cX4_hasHalfFrom 61 = .ok (.iconst 1, 1) := by decide +kernel
theorem dX4_hasHalfFrom_62 : decode cX4_hasHalfFrom 62 = .ok (.goto 4, 3) := by decide +kernel
theorem dX4_hasHalfFrom_65 : decode cX4_hasHalfFrom 65 = .ok (.iconst 0, 1) := by decide +kernel
theorem dX4_hasHalfFrom_66 : decode cX4_hasHalfFrom 66 = .ok (.ireturn, 1) := by decide +kernel
theorem dX4_gradeBySums_0 : decode cX4_gradeBySums 0 = .ok (.aload_n 0, 1) := by decide +kernel
theorem dX4_gradeBySums_1 : decode cX4_gradeBySums 1 = .ok (.getfield 35, 3) := by decide +kernel
theorem dX4_gradeBySums_4 : decode cX4_gradeBySums 4 = .ok (.ifCond .ne 5, 3) := by decide +kernel
theorem dX4_gradeBySums_7 : decode cX4_gradeBySums 7 = .ok (.iconst 0, 1) := by decide +kernel
theorem dX4_gradeBySums_8 : decode cX4_gradeBySums 8 = .ok (.ireturn, 1) := by decide +kernel
theorem dX4_gradeBySums_9 : decode cX4_gradeBySums 9 = .ok (.aload_n 0, 1) := by decide +kernel
theorem dX4_gradeBySums_10 : decode cX4_gradeBySums 10 = .ok (.getfield 39, 3) := by decide +kernel
theorem dX4_gradeBySums_13 : decode cX4_gradeBySums 13 = .ok (.ifCond .ne 5, 3) := by decide +kernel
theorem dX4_gradeBySums_16 : decode cX4_gradeBySums 16 = .ok (.iconst 5, 1) := by decide +kernel
theorem dX4_gradeBySums_17 : decode cX4_gradeBySums 17 = .ok (.ireturn, 1) := by decide +kernel
theorem dX4_gradeBySums_18 : decode cX4_gradeBySums 18 = .ok (.iconst 1, 1) := by decide +kernel
theorem dX4_gradeBySums_19 : decode cX4_gradeBySums 19 = .ok (.istore_n 2, 1) := by decide +kernel
theorem dX4_gradeBySums_20 : decode cX4_gradeBySums 20 = .ok (.iload_n 2, 1) := by decide +kernel
theorem dX4_gradeBySums_21 : decode cX4_gradeBySums 21 = .ok (.iconst 4, 1) := by decide +kernel
theorem dX4_gradeBySums_22 : decode cX4_gradeBySums 22 = .ok (.if_icmp .ge 26, 3) := by decide +kernel
theorem dX4_gradeBySums_25 : decode cX4_gradeBySums 25 = .ok (.aload_n 0, 1) := by decide +kernel
theorem dX4_gradeBySums_26 : decode cX4_gradeBySums 26 = .ok (.getfield 29, 3) := by decide +kernel
theorem dX4_gradeBySums_29 : decode cX4_gradeBySums 29 = .ok (.getstatic 110, 3) := by decide +kernel
theorem dX4_gradeBySums_32 : decode cX4_gradeBySums 32 = .ok (.iload_n 2, 1) := by decide +kernel
theorem dX4_gradeBySums_33 : decode cX4_gradeBySums 33 = .ok (.iaload, 1) := by decide +kernel
theorem dX4_gradeBySums_34 : decode cX4_gradeBySums 34 = .ok (.aload_n 0, 1) := by decide +kernel
theorem dX4_gradeBySums_35 : decode cX4_gradeBySums 35 = .ok (.getfield 25, 3) := by decide +kernel
theorem dX4_gradeBySums_38 : decode cX4_gradeBySums 38 = .ok (.imul, 1) := by decide +kernel
theorem dX4_gradeBySums_39 : decode cX4_gradeBySums 39 = .ok (.if_icmp .ge 9, 3) := by decide +kernel
theorem dX4_gradeBySums_42 : decode cX4_gradeBySums 42 = .ok (.iinc 2 1, 3) := by decide +kernel
theorem dX4_gradeBySums_45 : decode cX4_gradeBySums 45 = .ok (.goto (-25), 3) := by decide +kernel
theorem dX4_gradeBySums_48 : decode cX4_gradeBySums 48 = .ok (.iload_n 2, 1) := by decide +kernel
theorem dX4_gradeBySums_49 : decode cX4_gradeBySums 49 = .ok (.iconst 1, 1) := by decide +kernel
theorem dX4_gradeBySums_50 : decode cX4_gradeBySums 50 = .ok (.if_icmp .ne 5, 3) := by decide +kernel
theorem dX4_gradeBySums_53 : decode cX4_gradeBySums 53 = .ok (.iload_n 2, 1) := by decide +kernel
theorem dX4_gradeBySums_54 : decode cX4_gradeBySums 54 = .ok (.ireturn, 1) := by decide +kernel
theorem dX4_gradeBySums_55 : decode cX4_gradeBySums 55 = .ok (.getstatic 110, 3) := by decide +kernel
theorem dX4_gradeBySums_58 : decode cX4_gradeBySums 58 = .ok (.iload_n 2, 1) := by decide +kernel
theorem dX4_gradeBySums_59 : decode cX4_gradeBySums 59 = .ok (.iconst 1, 1) := by decide +kernel
theorem dX4_gradeBySums_60 : decode cX4_gradeBySums 60 = .ok (.isub, 1) := by decide +kernel
theorem dX4_gradeBySums_61 : decode cX4_gradeBySums 61 = .ok (.iaload, 1) := by decide +kernel
theorem dX4_gradeBySums_62 : decode cX4_gradeBySums 62 = .ok (.istore_n 3, 1) := by decide +kernel
theorem dX4_gradeBySums_63 : decode cX4_gradeBySums 63 = .ok (.aload_n 0, 1) := by decide +kernel
theorem dX4_gradeBySums_64 : decode cX4_gradeBySums 64 = .ok (.getfield 29, 3) := by decide +kernel
theorem dX4_gradeBySums_67 : decode cX4_gradeBySums 67 = .ok (.iload_n 3, 1) := by decide +kernel
theorem dX4_gradeBySums_68 : decode cX4_gradeBySums 68 = .ok (.aload_n 1, 1) := by decide +kernel
theorem dX4_gradeBySums_69 : decode cX4_gradeBySums 69 = .ok (.getfield 90, 3) := by decide +kernel
theorem dX4_gradeBySums_72 : decode cX4_gradeBySums 72 = .ok (.iconst 3, 1) := by decide +kernel
theorem dX4_gradeBySums_73 : decode cX4_gradeBySums 73 = .ok (.iaload, 1) := by decide +kernel
theorem dX4_gradeBySums_74 : decode cX4_gradeBySums 74 = .ok (.isub, 1) := by decide +kernel
theorem dX4_gradeBySums_75 : decode cX4_gradeBySums 75 = .ok (.aload_n 0, 1) := by decide +kernel
theorem dX4_gradeBySums_76 : decode cX4_gradeBySums 76 = .ok (.getfield 25, 3) := by decide +kernel
theorem dX4_gradeBySums_79 : decode cX4_gradeBySums 79 = .ok (.imul, 1) := by decide +kernel
theorem dX4_gradeBySums_80 : decode cX4_gradeBySums 80 = .ok (.if_icmp .lt 7, 3) := by decide +kernel
theorem dX4_gradeBySums_83 : decode cX4_gradeBySums 83 = .ok (.iconst 1, 1) := by decide +kernel
theorem dX4_gradeBySums_84 : decode cX4_gradeBySums 84 = .ok (.goto 4, 3) := by decide +kernel
theorem dX4_gradeBySums_87 : decode cX4_gradeBySums 87 = .ok (.iconst 0, 1) := by decide +kernel
theorem dX4_gradeBySums_88 : decode cX4_gradeBySums 88 = .ok (.istore 4, 2) := by decide +kernel
theorem dX4_gradeBySums_90 : decode cX4_gradeBySums 90 = .ok (.iload 4, 2) := by decide +kernel
theorem dX4_gradeBySums_92 : decode cX4_gradeBySums 92 = .ok (.ifCond .eq 18, 3) := by decide +kernel
theorem dX4_gradeBySums_95 : decode cX4_gradeBySums 95 = .ok (.aload_n 0, 1) := by decide +kernel
theorem dX4_gradeBySums_96 : decode cX4_gradeBySums 96 = .ok (.aload_n 1, 1) := by decide +kernel
theorem dX4_gradeBySums_97 : decode cX4_gradeBySums 97 = .ok (.iload_n 3, 1) := by decide +kernel
theorem dX4_gradeBySums_98 : decode cX4_gradeBySums 98 = .ok (.invokevirtual 116, 3) := by decide +kernel
theorem dX4_gradeBySums_101 : decode cX4_gradeBySums 101 = .ok (.ifCond .eq 9, 3) := by decide +kernel
theorem dX4_gradeBySums_104 : decode cX4_gradeBySums 104 = .ok (.iload_n 2, 1) := by decide +kernel
theorem dX4_gradeBySums_105 : decode cX4_gradeBySums 105 = .ok (.iconst 1, 1) := by decide +kernel
theorem dX4_gradeBySums_106 : decode cX4_gradeBySums 106 = .ok (.isub, 1) := by decide +kernel
theorem dX4_gradeBySums_107 : decode cX4_gradeBySums 107 = .ok (.goto 4, 3) := by decide +kernel
theorem dX4_gradeBySums_110 : decode cX4_gradeBySums 110 = .ok (.iload_n 2, 1) := by decide +kernel
theorem dX4_gradeBySums_111 : decode cX4_gradeBySums 111 = .ok (.ireturn, 1) := by decide +kernel
theorem dX4_isWhole_0 : decode cX4_isWhole 0 = .ok (.aload_n 0, 1) := by decide +kernel
theorem dX4_isWhole_1 : decode cX4_isWhole 1 = .ok (.getfield 18, 3) := by decide +kernel
theorem dX4_isWhole_4 : decode cX4_isWhole 4 = .ok (.iload_n 1, 1) := by decide +kernel
theorem dX4_isWhole_5 : decode cX4_isWhole 5 = .ok (.iaload, 1) := by decide +kernel
theorem dX4_isWhole_6 : decode cX4_isWhole 6 = .ok (.iconst (-1), 1) := by decide +kernel
theorem dX4_isWhole_7 : decode cX4_isWhole 7 = .ok (.if_icmp .eq 7, 3) := by decide +kernel
theorem dX4_isWhole_10 : decode cX4_isWhole 10 = .ok (.iconst 1, 1) := by decide +kernel
theorem dX4_isWhole_11 : decode cX4_isWhole 11 = .ok (.goto 4, 3) := by decide +kernel
theorem dX4_isWhole_14 : decode cX4_isWhole 14 = .ok (.iconst 0, 1) := by decide +kernel
theorem dX4_isWhole_15 : decode cX4_isWhole 15 = .ok (.ireturn, 1) := by decide +kernel
theorem dX4_passes_0 : decode cX4_passes 0 = .ok (.aload_n 0, 1) := by decide +kernel
theorem dX4_passes_1 : decode cX4_passes 1 = .ok (.iload_n 2, 1) := by decide +kernel
theorem dX4_passes_2 : decode cX4_passes 2 = .ok (.invokevirtual 99, 3) := by decide +kernel
theorem dX4_passes_5 : decode cX4_passes 5 = .ok (.ifCond .eq 17, 3) := by decide +kernel
theorem dX4_passes_8 : decode cX4_passes 8 = .ok (.aload_n 0, 1) := by decide +kernel
theorem dX4_passes_9 : decode cX4_passes 9 = .ok (.aload_n 1, 1) := by decide +kernel
theorem dX4_passes_10 : decode cX4_passes 10 = .ok (.iload_n 2, 1) := by decide +kernel
theorem dX4_passes_11 : decode cX4_passes 11 = .ok (.iconst 3, 1) := by decide +kernel
theorem dX4_passes_12 : decode cX4_passes 12 = .ok (.invokevirtual 119, 3) := by decide +kernel
theorem dX4_passes_15 : decode cX4_passes 15 = .ok (.ifCond .ne 7, 3) := by decide +kernel
theorem dX4_passes_18 : decode cX4_passes 18 = .ok (.iconst 1, 1) := by decide +kernel
theorem dX4_passes_19 : decode cX4_passes 19 = .ok (.goto 4, 3) := by decide +kernel
theorem dX4_passes_22 : decode cX4_passes 22 = .ok (.iconst 0, 1) := by decide +kernel
theorem dX4_passes_23 : decode cX4_passes 23 = .ok (.ireturn, 1) := by decide +kernel
theorem dX4_papersWith_0 : decode cX4_papersWith 0 = .ok (.iconst 0, 1) := by decide +kernel
theorem dX4_papersWith_1 : decode cX4_papersWith 1 = .ok (.istore 4, 2) := by decide +kernel
theorem dX4_papersWith_3 : decode cX4_papersWith 3 = .ok (.iconst 0, 1) := by decide +kernel
theorem dX4_papersWith_4 : decode cX4_papersWith 4 = .ok (.istore 5, 2) := by decide +kernel
theorem dX4_papersWith_6 : decode cX4_papersWith 6 = .ok (.iload 5, 2) := by decide +kernel
theorem dX4_papersWith_8 : decode cX4_papersWith 8 = .ok (.aload_n 1, 1) := by decide +kernel
theorem dX4_papersWith_9 : decode cX4_papersWith 9 = .ok (.getfield 51, 3) := by decide +kernel
theorem dX4_papersWith_12 : decode cX4_papersWith 12 = .ok (.if_icmp .ge 34, 3) := by decide +kernel
theorem dX4_papersWith_15 : decode cX4_papersWith 15 = .ok (.aload_n 1, 1) := by decide +kernel
theorem dX4_papersWith_16 : decode cX4_papersWith 16 = .ok (.getfield 80, 3) := by decide +kernel
theorem dX4_papersWith_19 : decode cX4_papersWith 19 = .ok (.iload 5, 2) := by decide +kernel
theorem dX4_papersWith_21 : decode cX4_papersWith 21 = .ok (.iaload, 1) := by decide +kernel
theorem dX4_papersWith_22 : decode cX4_papersWith 22 = .ok (.iload_n 2, 1) := by decide +kernel
theorem dX4_papersWith_23 : decode cX4_papersWith 23 = .ok (.if_icmp .ne 17, 3) := by decide +kernel
theorem dX4_papersWith_26 : decode cX4_papersWith 26 = .ok (.aload_n 0, 1) := by decide +kernel
theorem dX4_papersWith_27 : decode cX4_papersWith 27 = .ok (.getfield 15, 3) := by decide +kernel
theorem dX4_papersWith_30 : decode cX4_papersWith 30 = .ok (.iload 5, 2) := by decide +kernel
theorem dX4_papersWith_32 : decode cX4_papersWith 32 = .ok (.iaload, 1) := by decide +kernel
theorem dX4_papersWith_33 : decode cX4_papersWith 33 = .ok (.iload_n 3, 1) := by decide +kernel
theorem dX4_papersWith_34 : decode cX4_papersWith 34 = .ok (.if_icmp .ne 6, 3) := by decide +kernel
theorem dX4_papersWith_37 : decode cX4_papersWith 37 = .ok (.iinc 4 1, 3) := by decide +kernel
theorem dX4_papersWith_40 : decode cX4_papersWith 40 = .ok (.iinc 5 1, 3) := by decide +kernel
theorem dX4_papersWith_43 : decode cX4_papersWith 43 = .ok (.goto (-37), 3) := by decide +kernel
theorem dX4_papersWith_46 : decode cX4_papersWith 46 = .ok (.iload 4, 2) := by decide +kernel
theorem dX4_papersWith_48 : decode cX4_papersWith 48 = .ok (.ireturn, 1) := by decide +kernel
theorem dX4_papersMarked_0 : decode cX4_papersMarked 0 = .ok (.aload_n 1, 1) := by decide +kernel
theorem dX4_papersMarked_1 : decode cX4_papersMarked 1 = .ok (.iload_n 2, 1) := by decide +kernel
theorem dX4_papersMarked_2 : decode cX4_papersMarked 2 = .ok (.invokevirtual 123, 3) := by decide +kernel
theorem dX4_papersMarked_5 : decode cX4_papersMarked 5 = .ok (.aload_n 0, 1) := by decide +kernel
theorem dX4_papersMarked_6 : decode cX4_papersMarked 6 = .ok (.aload_n 1, 1) := by decide +kernel
theorem dX4_papersMarked_7 : decode cX4_papersMarked 7 = .ok (.iload_n 2, 1) := by decide +kernel
theorem dX4_papersMarked_8 : decode cX4_papersMarked 8 = .ok (.iconst 0, 1) := by decide +kernel
theorem dX4_papersMarked_9 : decode cX4_papersMarked 9 = .ok (.invokevirtual 119, 3) := by decide +kernel
theorem dX4_papersMarked_12 : decode cX4_papersMarked 12 = .ok (.isub, 1) := by decide +kernel
theorem dX4_papersMarked_13 : decode cX4_papersMarked 13 = .ok (.ireturn, 1) := by decide +kernel
theorem dX4_verdictCount_0 : decode cX4_verdictCount 0 = .ok (.iconst 0, 1) := by decide +kernel
theorem dX4_verdictCount_1 : decode cX4_verdictCount 1 = .ok (.istore_n 3, 1) := by decide +kernel
theorem dX4_verdictCount_2 : decode cX4_verdictCount 2 = .ok (.iconst 0, 1) := by decide +kernel
theorem dX4_verdictCount_3 : decode cX4_verdictCount 3 = .ok (.istore 4, 2) := by decide +kernel
theorem dX4_verdictCount_5 : decode cX4_verdictCount 5 = .ok (.iload 4, 2) := by decide +kernel
theorem dX4_verdictCount_7 : decode cX4_verdictCount 7 = .ok (.aload_n 1, 1) := by decide +kernel
theorem dX4_verdictCount_8 : decode cX4_verdictCount 8 = .ok (.getfield 51, 3) := by decide +kernel
theorem dX4_verdictCount_11 : decode cX4_verdictCount 11 = .ok (.if_icmp .ge 23, 3) := by decide +kernel
theorem dX4_verdictCount_14 : decode cX4_verdictCount 14 = .ok (.aload_n 0, 1) := by decide +kernel
theorem dX4_verdictCount_15 : decode cX4_verdictCount 15 = .ok (.getfield 15, 3) := by decide +kernel
theorem dX4_verdictCount_18 : decode cX4_verdictCount 18 = .ok (.iload 4, 2) := by decide +kernel
theorem dX4_verdictCount_20 : decode cX4_verdictCount 20 = .ok (.iaload, 1) := by decide +kernel
theorem dX4_verdictCount_21 : decode cX4_verdictCount 21 = .ok (.iload_n 2, 1) := by decide +kernel
theorem dX4_verdictCount_22 : decode cX4_verdictCount 22 = .ok (.if_icmp .ne 6, 3) := by decide +kernel
theorem dX4_verdictCount_25 : decode cX4_verdictCount 25 = .ok (.iinc 3 1, 3) := by decide +kernel
theorem dX4_verdictCount_28 : decode cX4_verdictCount 28 = .ok (.iinc 4 1, 3) := by decide +kernel
theorem dX4_verdictCount_31 : decode cX4_verdictCount 31 = .ok (.goto (-26), 3) := by decide +kernel
theorem dX4_verdictCount_34 : decode cX4_verdictCount 34 = .ok (.iload_n 3, 1) := by decide +kernel
theorem dX4_verdictCount_35 : decode cX4_verdictCount 35 = .ok (.ireturn, 1) := by decide +kernel
theorem dX4_reason_0 : decode cX4_reason 0 = .ok (.aload_n 0, 1) := by decide +kernel
theorem dX4_reason_1 : decode cX4_reason 1 = .ok (.getfield 35, 3) := by decide +kernel
theorem dX4_reason_4 : decode cX4_reason 4 = .ok (.ifCond .ne 5, 3) := by decide +kernel
theorem dX4_reason_7 : decode cX4_reason 7 = .ok (.iconst 1, 1) := by decide +kernel
theorem dX4_reason_8 : decode cX4_reason 8 = .ok (.ireturn, 1) := by decide +kernel
theorem dX4_reason_9 : decode cX4_reason 9 = .ok (.aload_n 0, 1) := by decide +kernel
theorem dX4_reason_10 : decode cX4_reason 10 = .ok (.getfield 39, 3) := by decide +kernel
theorem dX4_reason_13 : decode cX4_reason 13 = .ok (.ifCond .ne 5, 3) := by decide +kernel
theorem dX4_reason_16 : decode cX4_reason 16 = .ok (.iconst 2, 1) := by decide +kernel
theorem dX4_reason_17 : decode cX4_reason 17 = .ok (.ireturn, 1) := by decide +kernel
theorem dX4_reason_18 : decode cX4_reason 18 = .ok (.aload_n 0, 1) := by decide +kernel
theorem dX4_reason_19 : decode cX4_reason 19 = .ok (.getfield 48, 3) := by decide +kernel
theorem dX4_reason_22 : decode cX4_reason 22 = .ok (.ifCond .eq 7, 3) := by decide +kernel
theorem dX4_reason_25 : decode cX4_reason 25 = .ok (.iconst 3, 1) := by decide +kernel
theorem dX4_reason_26 : decode cX4_reason 26 = .ok (.goto 4, 3) := by decide +kernel
theorem dX4_reason_29 : decode cX4_reason 29 = .ok (.iconst 4, 1) := by decide +kernel
theorem dX4_reason_30 : decode cX4_reason 30 = .ok (.ireturn, 1) := by decide +kernel
theorem dX4_firstIncomplete_0 : decode cX4_firstIncomplete 0 = .ok (.iconst 0, 1) := by decide +kernel
theorem dX4_firstIncomplete_1 : decode cX4_firstIncomplete 1 = .ok (.istore_n 2, 1) := by decide +kernel
theorem dX4_firstIncomplete_2 : decode cX4_firstIncomplete 2 = .ok (.iload_n 2, 1) := by decide +kernel
theorem dX4_firstIncomplete_3 : decode cX4_firstIncomplete 3 = .ok (.aload_n 1, 1) := by decide +kernel
theorem dX4_firstIncomplete_4 : decode cX4_firstIncomplete 4 = .ok (.getfield 64, 3) := by decide +kernel
theorem dX4_firstIncomplete_7 : decode cX4_firstIncomplete 7 = .ok (.if_icmp .ge 28, 3) := by decide +kernel
theorem dX4_firstIncomplete_10 : decode cX4_firstIncomplete 10 = .ok (.aload_n 0, 1) := by decide +kernel
theorem dX4_firstIncomplete_11 : decode cX4_firstIncomplete 11 = .ok (.getfield 21, 3) := by decide +kernel
theorem dX4_firstIncomplete_14 : decode cX4_firstIncomplete 14 = .ok (.iload_n 2, 1) := by decide +kernel
theorem dX4_firstIncomplete_15 : decode cX4_firstIncomplete 15 = .ok (.baload, 1) := by decide +kernel
theorem dX4_firstIncomplete_16 : decode cX4_firstIncomplete 16 = .ok (.ifCond .eq 13, 3) := by decide +kernel
theorem dX4_firstIncomplete_19 : decode cX4_firstIncomplete 19 = .ok (.aload_n 0, 1) := by decide +kernel
theorem dX4_firstIncomplete_20 : decode cX4_firstIncomplete 20 = .ok (.iload_n 2, 1) := by decide +kernel
theorem dX4_firstIncomplete_21 : decode cX4_firstIncomplete 21 = .ok (.invokevirtual 99, 3) := by decide +kernel
theorem dX4_firstIncomplete_24 : decode cX4_firstIncomplete 24 = .ok (.ifCond .ne 5, 3) := by decide +kernel
theorem dX4_firstIncomplete_27 : decode cX4_firstIncomplete 27 = .ok (.iload_n 2, 1) := by decide +kernel
theorem dX4_firstIncomplete_28 : decode cX4_firstIncomplete 28 = .ok (.ireturn, 1) := by decide +kernel
theorem dX4_firstIncomplete_29 : decode cX4_firstIncomplete 29 = .ok (.iinc 2 1, 3) := by decide +kernel
theorem dX4_firstIncomplete_32 : decode cX4_firstIncomplete 32 = .ok (.goto (-30), 3) := by decide +kernel
theorem dX4_firstIncomplete_35 : decode cX4_firstIncomplete 35 = .ok (.bipush (-5), 2) := by decide +kernel
theorem dX4_firstIncomplete_37 : decode cX4_firstIncomplete 37 = .ok (.ireturn, 1) := by decide +kernel
theorem dX4_firstFailed_0 : decode cX4_firstFailed 0 = .ok (.iconst 0, 1) := by decide +kernel
theorem dX4_firstFailed_1 : decode cX4_firstFailed 1 = .ok (.istore_n 2, 1) := by decide +kernel
theorem dX4_firstFailed_2 : decode cX4_firstFailed 2 = .ok (.iload_n 2, 1) := by decide +kernel
theorem dX4_firstFailed_3 : decode cX4_firstFailed 3 = .ok (.aload_n 1, 1) := by decide +kernel
theorem dX4_firstFailed_4 : decode cX4_firstFailed 4 = .ok (.getfield 51, 3) := by decide +kernel
theorem dX4_firstFailed_7 : decode cX4_firstFailed 7 = .ok (.if_icmp .ge 21, 3) := by decide +kernel
theorem dX4_firstFailed_10 : decode cX4_firstFailed 10 = .ok (.aload_n 0, 1) := by decide +kernel
theorem dX4_firstFailed_11 : decode cX4_firstFailed 11 = .ok (.getfield 15, 3) := by decide +kernel
theorem dX4_firstFailed_14 : decode cX4_firstFailed 14 = .ok (.iload_n 2, 1) := by decide +kernel
theorem dX4_firstFailed_15 : decode cX4_firstFailed 15 = .ok (.iaload, 1) := by decide +kernel
theorem dX4_firstFailed_16 : decode cX4_firstFailed 16 = .ok (.iconst 3, 1) := by decide +kernel
theorem dX4_firstFailed_17 : decode cX4_firstFailed 17 = .ok (.if_icmp .ne 5, 3) := by decide +kernel
theorem dX4_firstFailed_20 : decode cX4_firstFailed 20 = .ok (.iload_n 2, 1) := by decide +kernel
theorem dX4_firstFailed_21 : decode cX4_firstFailed 21 = .ok (.ireturn, 1) := by decide +kernel
theorem dX4_firstFailed_22 : decode cX4_firstFailed 22 = .ok (.iinc 2 1, 3) := by decide +kernel
theorem dX4_firstFailed_25 : decode cX4_firstFailed 25 = .ok (.goto (-23), 3) := by decide +kernel
theorem dX4_firstFailed_28 : decode cX4_firstFailed 28 = .ok (.bipush (-5), 2) := by decide +kernel
theorem dX4_firstFailed_30 : decode cX4_firstFailed 30 = .ok (.ireturn, 1) := by decide +kernel
