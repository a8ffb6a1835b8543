theorem dX11_readTest_149 : decode cX11_readTest 149 = .ok (.return_, 1) := by decide +kernel
theorem dX11_readRest_0 : decode cX11_readRest 0 = .ok (.aload_n 0, 1) := by decide +kernel
theorem dX11_readRest_1 : decode cX11_readRest 1 = .ok (.getfield 35, 3) := by decide +kernel
theorem dX11_readRest_4 : decode cX11_readRest 4 = .ok (.iload_n 1, 1) := by decide +kernel
theorem dX11_readRest_5 : decode cX11_readRest 5 = .ok (.iaload, 1) := by decide +kernel
theorem dX11_readRest_6 : decode cX11_readRest 6 = .ok (.istore_n 2, 1) := by decide +kernel
theorem dX11_readRest_7 : decode cX11_readRest 7 = .ok (.iload_n 2, 1) := by decide +kernel
theorem dX11_readRest_8 : decode cX11_readRest 8 = .ok (.iconst 5, 1) := by decide +kernel
theorem dX11_readRest_9 : decode cX11_readRest 9 = .ok (.if_icmp .ne 11, 3) := by decide +kernel
theorem dX11_readRest_12 : decode cX11_readRest 12 = .ok (.aload_n 0, 1) := by decide +kernel
theorem dX11_readRest_13 : decode cX11_readRest 13 = .ok (.iload_n 1, 1) := by decide +kernel
theorem dX11_readRest_14 : decode cX11_readRest 14 = .ok (.invokevirtual 318, 3) := by decide +kernel
theorem dX11_readRest_17 : decode cX11_readRest 17 = .ok (.goto 110, 3) := by decide +kernel
theorem dX11_readRest_20 : decode cX11_readRest 20 = .ok (.iload_n 2, 1) := by decide +kernel
theorem dX11_readRest_21 : decode cX11_readRest 21 = .ok (.bipush 6, 2) := by decide +kernel
theorem dX11_readRest_23 : decode cX11_readRest 23 = .ok (.if_icmp .ne 21, 3) := by decide +kernel
theorem dX11_readRest_26 : decode cX11_readRest 26 = .ok (.aload_n 0, 1) := by decide +kernel
theorem dX11_readRest_27 : decode cX11_readRest 27 = .ok (.getfield 35, 3) := by decide +kernel
theorem dX11_readRest_30 : decode cX11_readRest 30 = .ok (.iload_n 1, 1) := by decide +kernel
theorem dX11_readRest_31 : decode cX11_readRest 31 = .ok (.iconst 1, 1) := by decide +kernel
theorem dX11_readRest_32 : decode cX11_readRest 32 = .ok (.iadd, 1) := by decide +kernel
theorem dX11_readRest_33 : decode cX11_readRest 33 = .ok (.aload_n 0, 1) := by decide +kernel
theorem dX11_readRest_34 : decode cX11_readRest 34 = .ok (.iconst 1, 1) := by decide +kernel
theorem dX11_readRest_35 : decode cX11_readRest 35 = .ok (.bipush 99, 2) := by decide +kernel
theorem dX11_readRest_37 : decode cX11_readRest 37 = .ok (.invokevirtual 281, 3) := by decide +kernel
theorem dX11_readRest_40 : decode cX11_readRest 40 = .ok (.iastore, 1) := by decide +kernel
theorem dX11_readRest_41 : decode cX11_readRest 41 = .ok (.goto 86, 3) := by decide +kernel
theorem dX11_readRest_44 : decode cX11_readRest 44 = .ok (.iload_n 2, 1) := by decide +kernel
theorem dX11_readRest_45 : decode cX11_readRest 45 = .ok (.iconst 5, 1) := by decide +kernel
theorem dX11_readRest_46 : decode cX11_readRest 46 = .ok (.if_icmp .ge 81, 3) := by decide +kernel
theorem dX11_readRest_49 : decode cX11_readRest 49 = .ok (.aload_n 0, 1) := by decide +kernel
theorem dX11_readRest_50 : decode cX11_readRest 50 = .ok (.getfield 35, 3) := by decide +kernel
theorem dX11_readRest_53 : decode cX11_readRest 53 = .ok (.iload_n 1, 1) := by decide +kernel
theorem dX11_readRest_54 : decode cX11_readRest 54 = .ok (.iconst 1, 1) := by decide +kernel
theorem dX11_readRest_55 : decode cX11_readRest 55 = .ok (.iadd, 1) := by decide +kernel
theorem dX11_readRest_56 : decode cX11_readRest 56 = .ok (.aload_n 0, 1) := by decide +kernel
theorem dX11_readRest_57 : decode cX11_readRest 57 = .ok (.iconst 0, 1) := by decide +kernel
theorem dX11_readRest_58 : decode cX11_readRest 58 = .ok (.iconst 2, 1) := by decide +kernel
theorem dX11_readRest_59 : decode cX11_readRest 59 = .ok (.invokevirtual 284, 3) := by decide +kernel
theorem dX11_readRest_62 : decode cX11_readRest 62 = .ok (.iastore, 1) := by decide +kernel
theorem dX11_readRest_63 : decode cX11_readRest 63 = .ok (.iload_n 2, 1) := by decide +kernel
theorem dX11_readRest_64 : decode cX11_readRest 64 = .ok (.ifCond .ne 20, 3) := by decide +kernel
theorem dX11_readRest_67 : decode cX11_readRest 67 = .ok (.aload_n 0, 1) := by decide +kernel
theorem dX11_readRest_68 : decode cX11_readRest 68 = .ok (.getfield 35, 3) := by decide +kernel
theorem dX11_readRest_71 : decode cX11_readRest 71 = .ok (.iload_n 1, 1) := by decide +kernel
theorem dX11_readRest_72 : decode cX11_readRest 72 = .ok (.iconst 2, 1) := by decide +kernel
theorem dX11_readRest_73 : decode cX11_readRest 73 = .ok (.iadd, 1) := by decide +kernel
theorem dX11_readRest_74 : decode cX11_readRest 74 = .ok (.aload_n 0, 1) := by decide +kernel
theorem dX11_readRest_75 : decode cX11_readRest 75 = .ok (.iconst 0, 1) := by decide +kernel
theorem dX11_readRest_76 : decode cX11_readRest 76 = .ok (.iconst 1, 1) := by decide +kernel
theorem dX11_readRest_77 : decode cX11_readRest 77 = .ok (.invokevirtual 284, 3) := by decide +kernel
theorem dX11_readRest_80 : decode cX11_readRest 80 = .ok (.iastore, 1) := by decide +kernel
theorem dX11_readRest_81 : decode cX11_readRest 81 = .ok (.goto 46, 3) := by decide +kernel
theorem dX11_readRest_84 : decode cX11_readRest 84 = .ok (.iload_n 2, 1) := by decide +kernel
theorem dX11_readRest_85 : decode cX11_readRest 85 = .ok (.iconst 1, 1) := by decide +kernel
theorem dX11_readRest_86 : decode cX11_readRest 86 = .ok (.if_icmp .ne 21, 3) := by decide +kernel
theorem dX11_readRest_89 : decode cX11_readRest 89 = .ok (.aload_n 0, 1) := by decide +kernel
theorem dX11_readRest_90 : decode cX11_readRest 90 = .ok (.getfield 35, 3) := by decide +kernel
theorem dX11_readRest_93 : decode cX11_readRest 93 = .ok (.iload_n 1, 1) := by decide +kernel
theorem dX11_readRest_94 : decode cX11_readRest 94 = .ok (.iconst 2, 1) := by decide +kernel
theorem dX11_readRest_95 : decode cX11_readRest 95 = .ok (.iadd, 1) := by decide +kernel
theorem dX11_readRest_96 : decode cX11_readRest 96 = .ok (.aload_n 0, 1) := by decide +kernel
theorem dX11_readRest_97 : decode cX11_readRest 97 = .ok (.iconst 0, 1) := by decide +kernel
theorem dX11_readRest_98 : decode cX11_readRest 98 = .ok (.bipush 11, 2) := by decide +kernel
theorem dX11_readRest_100 : decode cX11_readRest 100 = .ok (.invokevirtual 281, 3) := by decide +kernel
theorem dX11_readRest_103 : decode cX11_readRest 103 = .ok (.iastore, 1) := by decide +kernel
theorem dX11_readRest_104 : decode cX11_readRest 104 = .ok (.goto 23, 3) := by decide +kernel
theorem dX11_readRest_107 : decode cX11_readRest 107 = .ok (.iload_n 2, 1) := by decide +kernel
theorem dX11_readRest_108 : decode cX11_readRest 108 = .ok (.iconst 2, 1) := by decide +kernel
theorem dX11_readRest_109 : decode cX11_readRest 109 = .ok (.if_icmp .eq 18, 3) := by decide +kernel
theorem dX11_readRest_112 : decode cX11_readRest 112 = .ok (.aload_n 0, 1) := by decide +kernel
theorem dX11_readRest_113 : decode cX11_readRest 113 = .ok (.getfield 35, 3) := by decide +kernel
theorem dX11_readRest_116 : decode cX11_readRest 116 = .ok (.iload_n 1, 1) := by decide +kernel
theorem dX11_readRest_117 : decode cX11_readRest 117 = .ok (.iconst 2, 1) := by decide +kernel
theorem dX11_readRest_118 : decode cX11_readRest 118 = .ok (.iadd, 1) := by decide +kernel
theorem dX11_readRest_119 : decode cX11_readRest 119 = .ok (.aload_n 0, 1) := by decide +kernel
theorem dX11_readRest_120 : decode cX11_readRest 120 = .ok (.iconst 1, 1) := by decide +kernel
theorem dX11_readRest_121 : decode cX11_readRest 121 = .ok (.bipush 99, 2) := by decide +kernel
theorem dX11_readRest_123 : decode cX11_readRest 123 = .ok (.invokevirtual 281, 3) := by decide +kernel
theorem dX11_readRest_126 : decode cX11_readRest 126 = .ok (.iastore, 1) := by decide +kernel
theorem dX11_readRest_127 : decode cX11_readRest 127 = .ok (.return_, 1) := by decide +kernel
theorem dX11_readStep_0 : decode cX11_readStep 0 = .ok (.aload_n 0, 1) := by decide +kernel
theorem dX11_readStep_1 : decode cX11_readStep 1 = .ok (.invokevirtual 212, 3) := by decide +kernel
theorem dX11_readStep_4 : decode cX11_readStep 4 = .ok (.istore_n 2, 1) := by decide +kernel
theorem dX11_readStep_5 : decode cX11_readStep 5 = .ok (.iload_n 2, 1) := by decide +kernel
theorem dX11_readStep_6 : decode cX11_readStep 6 = .ok (.iconst 5, 1) := by decide +kernel
theorem dX11_readStep_7 : decode cX11_readStep 7 = .ok (.if_icmp .eq 9, 3) := by decide +kernel
theorem dX11_readStep_10 : decode cX11_readStep 10 = .ok (.iload_n 2, 1) := by decide +kernel
theorem dX11_readStep_11 : decode cX11_readStep 11 = .ok (.bipush 6, 2) := by decide +kernel
theorem dX11_readStep_13 : decode cX11_readStep 13 = .ok (.if_icmp .ne 7, 3) := by decide +kernel
theorem dX11_readStep_16 : decode cX11_readStep 16 = .ok (.iconst 1, 1) := by decide +kernel
theorem dX11_readStep_17 : decode cX11_readStep 17 = .ok (.goto 4, 3) := by decide +kernel
theorem dX11_readStep_20 : decode cX11_readStep 20 = .ok (.iconst 0, 1) := by decide +kernel
theorem dX11_readStep_21 : decode cX11_readStep 21 = .ok (.istore_n 3, 1) := by decide +kernel
theorem dX11_readStep_22 : decode cX11_readStep 22 = .ok (.iload_n 2, 1) := by decide +kernel
theorem dX11_readStep_23 : decode cX11_readStep 23 = .ok (.ifCond .ge 7, 3) := by decide +kernel
theorem dX11_readStep_26 : decode cX11_readStep 26 = .ok (.aload_n 0, 1) := by decide +kernel
theorem dX11_readStep_27 : decode cX11_readStep 27 = .ok (.invokevirtual 238, 3) := by decide +kernel
theorem dX11_readStep_30 : decode cX11_readStep 30 = .ok (.aload_n 0, 1) := by decide +kernel
theorem dX11_readStep_31 : decode cX11_readStep 31 = .ok (.getfield 225, 3) := by decide +kernel
theorem dX11_readStep_34 : decode cX11_readStep 34 = .ok (.ifCond .ne 22, 3) := by decide +kernel
theorem dX11_readStep_37 : decode cX11_readStep 37 = .ok (.aload_n 0, 1) := by decide +kernel
theorem dX11_readStep_38 : decode cX11_readStep 38 = .ok (.getfield 321, 3) := by decide +kernel
theorem dX11_readStep_41 : decode cX11_readStep 41 = .ok (.bipush 30, 2) := by decide +kernel
theorem dX11_readStep_43 : decode cX11_readStep 43 = .ok (.if_icmp .ne 13, 3) := by decide +kernel
theorem dX11_readStep_46 : decode cX11_readStep 46 = .ok (.aload_n 0, 1) := by decide +kernel
theorem dX11_readStep_47 : decode cX11_readStep 47 = .ok (.bipush 6, 2) := by decide +kernel
theorem dX11_readStep_49 : decode cX11_readStep 49 = .ok (.aload_n 0, 1) := by decide +kernel
theorem dX11_readStep_50 : decode cX11_readStep 50 = .ok (.getfield 139, 3) := by decide +kernel
theorem dX11_readStep_53 : decode cX11_readStep 53 = .ok (.invokevirtual 231, 3) := by decide +kernel
theorem dX11_readStep_56 : decode cX11_readStep 56 = .ok (.aload_n 0, 1) := by decide +kernel
theorem dX11_readStep_57 : decode cX11_readStep 57 = .ok (.getfield 225, 3) := by decide +kernel
theorem dX11_readStep_60 : decode cX11_readStep 60 = .ok (.ifCond .ne 22, 3) := by decide +kernel
theorem dX11_readStep_63 : decode cX11_readStep 63 = .ok (.iload_n 3, 1) := by decide +kernel
theorem dX11_readStep_64 : decode cX11_readStep 64 = .ok (.ifCond .eq 18, 3) := by decide +kernel
theorem dX11_readStep_67 : decode cX11_readStep 67 = .ok (.iload_n 1, 1) := by decide +kernel
theorem dX11_readStep_68 : decode cX11_readStep 68 = .ok (.iconst 3, 1) := by decide +kernel
theorem dX11_readStep_69 : decode cX11_readStep 69 = .ok (.if_icmp .ne 13, 3) := by decide +kernel
theorem dX11_readStep_72 : decode cX11_readStep 72 = .ok (.aload_n 0, 1) := by decide +kernel
theorem dX11_readStep_73 : decode cX11_readStep 73 = .ok (.bipush 7, 2) := by decide +kernel
theorem dX11_readStep_75 : decode cX11_readStep 75 = .ok (.aload_n 0, 1) := by decide +kernel
theorem dX11_readStep_76 : decode cX11_readStep 76 = .ok (.getfield 139, 3) := by decide +kernel
theorem dX11_readStep_79 : decode cX11_readStep 79 = .ok (.invokevirtual 231, 3) := by decide +kernel
theorem dX11_readStep_82 : decode cX11_readStep 82 = .ok (.aload_n 0, 1) := by decide +kernel
theorem dX11_readStep_83 : decode cX11_readStep 83 = .ok (.getfield 225, 3) := by decide +kernel
theorem dX11_readStep_86 : decode cX11_readStep 86 = .ok (.ifCond .le 4, 3) := by decide +kernel
theorem dX11_readStep_89 : decode cX11_readStep 89 = .ok (.return_, 1) := by decide +kernel
theorem dX11_readStep_90 : decode cX11_readStep 90 = .ok (.sipush 1770, 3) := by decide +kernel
theorem dX11_readStep_93 : decode cX11_readStep 93 = .ok (.bipush 9, 2) := by decide +kernel
theorem dX11_readStep_95 : decode cX11_readStep 95 = .ok (.aload_n 0, 1) := by decide +kernel
theorem dX11_readStep_96 : decode cX11_readStep 96 = .ok (.getfield 321, 3) := by decide +kernel
theorem dX11_readStep_99 : decode cX11_readStep 99 = .ok (.imul, 1) := by decide +kernel
theorem dX11_readStep_100 : decode cX11_readStep 100 = .ok (.iadd, 1) := by decide +kernel
theorem dX11_readStep_101 : decode cX11_readStep 101 = .ok (.istore 4, 2) := by decide +kernel
theorem dX11_readStep_103 : decode cX11_readStep 103 = .ok (.aload_n 0, 1) := by decide +kernel
theorem dX11_readStep_104 : decode cX11_readStep 104 = .ok (.dup, 1) := by decide +kernel
theorem dX11_readStep_105 : decode cX11_readStep 105 = .ok (.getfield 321, 3) := by decide +kernel
theorem dX11_readStep_108 : decode cX11_readStep 108 = .ok (.iconst 1, 1) := by decide +kernel
theorem dX11_readStep_109 : decode cX11_readStep 109 = .ok (.iadd, 1) := by decide +kernel
theorem dX11_readStep_110 : decode cX11_readStep 110 = .ok (.putfield 321, 3) := by decide +kernel
theorem dX11_readStep_113 : decode cX11_readStep 113 = .ok (.aload_n 0, 1) := by decide +kernel
theorem dX11_readStep_114 : decode cX11_readStep 114 = .ok (.invokevirtual 235, 3) := by decide +kernel
theorem dX11_readStep_117 : decode cX11_readStep 117 = .ok (.aload_n 0, 1) := by decide +kernel
theorem dX11_readStep_118 : decode cX11_readStep 118 = .ok (.getfield 35, 3) := by decide +kernel
theorem dX11_readStep_121 : decode cX11_readStep 121 = .ok (.iload 4, 2) := by decide +kernel
theorem dX11_readStep_123 : decode cX11_readStep 123 = .ok (.iload_n 2, 1) := by decide +kernel
theorem dX11_readStep_124 : decode cX11_readStep 124 = .ok (.iastore, 1) := by decide +kernel
theorem dX11_readStep_125 : decode cX11_readStep 125 = .ok (.aload_n 0, 1) := by decide +kernel
theorem dX11_readStep_126 : decode cX11_readStep 126 = .ok (.iload 4, 2) := by decide +kernel
theorem dX11_readStep_128 : decode cX11_readStep 128 = .ok (.invokevirtual 324, 3) := by decide +kernel
theorem dX11_readStep_131 : decode cX11_readStep 131 = .ok (.aload_n 0, 1) := by decide +kernel
theorem dX11_readStep_132 : decode cX11_readStep 132 = .ok (.aload_n 0, 1) := by decide +kernel
theorem dX11_readStep_133 : decode cX11_readStep 133 = .ok (.bipush 59, 2) := by decide +kernel
theorem dX11_readStep_135 : decode cX11_readStep 135 = .ok (.invokevirtual 309, 3) := by decide +kernel
theorem dX11_readStep_138 : decode cX11_readStep 138 = .ok (.invokevirtual 270, 3) := by decide +kernel
theorem dX11_readStep_141 : decode cX11_readStep 141 = .ok (.iload_n 3, 1) := by decide +kernel
theorem dX11_readStep_142 : decode cX11_readStep 142 = .ok (.ifCond .eq 27, 3) := by decide +kernel
theorem dX11_readStep_145 : decode cX11_readStep 145 = .ok (.aload_n 0, 1) := by decide +kernel
theorem dX11_readStep_146 : decode cX11_readStep 146 = .ok (.getfield 225, 3) := by decide +kernel
theorem dX11_readStep_149 : decode cX11_readStep 149 = .ok (.ifCond .ne 20, 3) := by decide +kernel
theorem dX11_readStep_152 : decode cX11_readStep 152 = .ok (.aload_n 0, 1) := by decide +kernel
theorem dX11_readStep_153 : decode cX11_readStep 153 = .ok (.invokevirtual 219, 3) := by decide +kernel
theorem dX11_readStep_156 : decode cX11_readStep 156 = .ok (.ifCond .ne 13, 3) := by decide +kernel
theorem dX11_readStep_159 : decode cX11_readStep 159 = .ok (.aload_n 0, 1) := by decide +kernel
theorem dX11_readStep_160 : decode cX11_readStep 160 = .ok (.iload_n 1, 1) := by decide +kernel
theorem dX11_readStep_161 : decode cX11_readStep 161 = .ok (.iconst 1, 1) := by decide +kernel
theorem dX11_readStep_162 : decode cX11_readStep 162 = .ok (.iadd, 1) := by decide +kernel
theorem dX11_readStep_163 : decode cX11_readStep 163 = .ok (.invokevirtual 327, 3) := by decide +kernel
theorem dX11_readStep_166 : decode cX11_readStep 166 = .ok (.goto (-25), 3) := by decide +kernel
theorem dX11_readStep_169 : decode cX11_readStep 169 = .ok (.iload_n 3, 1) := by decide +kernel
theorem dX11_readStep_170 : decode cX11_readStep 170 = .ok (.ifCond .eq 21, 3) := by decide +kernel
theorem dX11_readStep_173 : decode cX11_readStep 173 = .ok (.aload_n 0, 1) := by decide +kernel
theorem dX11_readStep_174 : decode cX11_readStep 174 = .ok (.aload_n 0, 1) := by decide +kernel
theorem dX11_readStep_175 : decode cX11_readStep 175 = .ok (.invokevirtual 219, 3) := by decide +kernel
theorem dX11_readStep_178 : decode cX11_readStep 178 = .ok (.invokevirtual 270, 3) := by decide +kernel
theorem dX11_readStep_181 : decode cX11_readStep 181 = .ok (.aload_n 0, 1) := by decide +kernel
theorem dX11_readStep_182 : decode cX11_readStep 182 = .ok (.aload_n 0, 1) := by decide +kernel
theorem dX11_readStep_183 : decode cX11_readStep 183 = .ok (.bipush 59, 2) := by decide +kernel
theorem dX11_readStep_185 : decode cX11_readStep 185 = .ok (.invokevirtual 309, 3) := by decide +kernel
theorem dX11_readStep_188 : decode cX11_readStep 188 = .ok (.invokevirtual 270, 3) := by decide +kernel
theorem dX11_readStep_191 : decode cX11_readStep 191 = .ok (.aload_n 0, 1) := by decide +kernel
theorem dX11_readStep_192 : decode cX11_readStep 192 = .ok (.getfield 35, 3) := by decide +kernel
theorem dX11_readStep_195 : decode cX11_readStep 195 = .ok (.iload 4, 2) := by decide +kernel
theorem dX11_readStep_197 : decode cX11_readStep 197 = .ok (.bipush 8, 2) := by decide +kernel
theorem dX11_readStep_199 : decode cX11_readStep 199 = .ok (.iadd, 1) := by decide +kernel
theorem dX11_readStep_200 : decode cX11_readStep 200 = .ok (.aload_n 0, 1) := by decide +kernel
theorem dX11_readStep_201 : decode cX11_readStep 201 = .ok (.getfield 321, 3) := by decide +kernel
theorem dX11_readStep_204 : decode cX11_readStep 204 = .ok (.iastore, 1) := by decide +kernel
theorem dX11_readStep_205 : decode cX11_readStep 205 = .ok (.return_, 1) := by decide +kernel
theorem dX11_age_0 : decode cX11_age 0 = .ok (.aload_n 0, 1) := by decide +kernel
theorem dX11_age_1 : decode cX11_age 1 = .ok (.iconst 0, 1) := by decide +kernel
theorem dX11_age_2 : decode cX11_age 2 = .ok (.putfield 94, 3) := by decide +kernel
theorem dX11_age_5 : decode cX11_age 5 = .ok (.aload_n 0, 1) := by decide +kernel
theorem dX11_age_6 : decode cX11_age 6 = .ok (.iconst 0, 1) := by decide +kernel
theorem dX11_age_7 : decode cX11_age 7 = .ok (.putfield 97, 3) := by decide +kernel
theorem dX11_age_10 : decode cX11_age 10 = .ok (.aload_n 0, 1) := by decide +kernel
theorem dX11_age_11 : decode cX11_age 11 = .ok (.iload_n 1, 1) := by decide +kernel
theorem dX11_age_12 : decode cX11_age 12 = .ok (.sipush 300, 3) := by decide +kernel
theorem dX11_age_15 : decode cX11_age 15 = .ok (.invokevirtual 294, 3) := by decide +kernel
theorem dX11_age_18 : decode cX11_age 18 = .ok (.ifCond .ne 5, 3) := by decide +kernel
theorem dX11_age_21 : decode cX11_age 21 = .ok (.iconst (-1), 1) := by decide +kernel
theorem dX11_age_22 : decode cX11_age 22 = .ok (.ireturn, 1) := by decide +kernel
theorem dX11_age_23 : decode cX11_age 23 = .ok (.aload_n 0, 1) := by decide +kernel
theorem dX11_age_24 : decode cX11_age 24 = .ok (.iconst 0, 1) := by decide +kernel
theorem dX11_age_25 : decode cX11_age 25 = .ok (.putfield 321, 3) := by decide +kernel
theorem dX11_age_28 : decode cX11_age 28 = .ok (.aload_n 0, 1) := by decide +kernel
theorem dX11_age_29 : decode cX11_age 29 = .ok (.getfield 225, 3) := by decide +kernel
theorem dX11_age_32 : decode cX11_age 32 = .ok (.ifCond .ne 18, 3) := by decide +kernel
theorem dX11_age_35 : decode cX11_age 35 = .ok (.aload_n 0, 1) := by decide +kernel
theorem dX11_age_36 : decode cX11_age 36 = .ok (.getfield 145, 3) := by decide +kernel
theorem dX11_age_39 : decode cX11_age 39 = .ok (.ifCond .eq 11, 3) := by decide +kernel
theorem dX11_age_42 : decode cX11_age 42 = .ok (.aload_n 0, 1) := by decide +kernel
theorem dX11_age_43 : decode cX11_age 43 = .ok (.iconst 0, 1) := by decide +kernel
theorem dX11_age_44 : decode cX11_age 44 = .ok (.invokevirtual 327, 3) := by decide +kernel
theorem dX11_age_47 : decode cX11_age 47 = .ok (.goto (-19), 3) := by decide +kernel
theorem dX11_age_50 : decode cX11_age 50 = .ok (.aload_n 0, 1) := by decide +kernel
theorem dX11_age_51 : decode cX11_age 51 = .ok (.invokevirtual 312, 3) := by decide +kernel
theorem dX11_age_54 : decode cX11_age 54 = .ok (.ifCond .ne 5, 3) := by decide +kernel
theorem dX11_age_57 : decode cX11_age 57 = .ok (.iconst (-1), 1) := by decide +kernel
theorem dX11_age_58 : decode cX11_age 58 = .ok (.ireturn, 1) := by decide +kernel
theorem dX11_age_59 : decode cX11_age 59 = .ok (.aload_n 0, 1) := by decide +kernel
theorem dX11_age_60 : decode cX11_age 60 = .ok (.getfield 35, 3) := by decide +kernel
theorem dX11_age_63 : decode cX11_age 63 = .ok (.sipush 128, 3) := by decide +kernel
theorem dX11_age_66 : decode cX11_age 66 = .ok (.iconst 1, 1) := by decide +kernel
theorem dX11_age_67 : decode cX11_age 67 = .ok (.iastore, 1) := by decide +kernel
theorem dX11_age_68 : decode cX11_age 68 = .ok (.aload_n 0, 1) := by decide +kernel
theorem dX11_age_69 : decode cX11_age 69 = .ok (.getfield 35, 3) := by decide +kernel
theorem dX11_age_72 : decode cX11_age 72 = .ok (.sipush 129, 3) := by decide +kernel
theorem dX11_age_75 : decode cX11_age 75 = .ok (.aload_n 0, 1) := by decide +kernel
theorem dX11_age_76 : decode cX11_age 76 = .ok (.getfield 321, 3) := by decide +kernel
theorem dX11_age_79 : decode cX11_age 79 = .ok (.iastore, 1) := by decide +kernel
theorem dX11_age_80 : decode cX11_age 80 = .ok (.iconst 0, 1) := by decide +kernel
theorem dX11_age_81 : decode cX11_age 81 = .ok (.istore_n 2, 1) := by decide +kernel
theorem dX11_age_82 : decode cX11_age 82 = .ok (.iload_n 2, 1) := by decide +kernel
theorem dX11_age_83 : decode cX11_age 83 = .ok (.bipush 9, 2) := by decide +kernel
theorem dX11_age_85 : decode cX11_age 85 = .ok (.aload_n 0, 1) := by decide +kernel
theorem dX11_age_86 : decode cX11_age 86 = .ok (.getfield 321, 3) := by decide +kernel
theorem dX11_age_89 : decode cX11_age 89 = .ok (.imul, 1) := by decide +kernel
theorem dX11_age_90 : decode cX11_age 90 = .ok (.if_icmp .ge 29, 3) := by decide +kernel
theorem dX11_age_93 : decode cX11_age 93 = .ok (.aload_n 0, 1) := by decide +kernel
theorem dX11_age_94 : decode cX11_age 94 = .ok (.getfield 35, 3) := by decide +kernel
theorem dX11_age_97 : decode cX11_age 97 = .ok (.sipush 130, 3) := by decide +kernel
theorem dX11_age_100 : decode cX11_age 100 = .ok (.iload_n 2, 1) := by decide +kernel
theorem dX11_age_101 : decode cX11_age 101 = .ok (.iadd, 1) := by decide +kernel
theorem dX11_age_102 : decode cX11_age 102 = .ok (.aload_n 0, 1) := by decide +kernel
theorem dX11_age_103 : decode cX11_age 103 = .ok (.getfield 35, 3) := by decide +kernel
theorem dX11_age_106 : decode cX11_age 106 = .ok (.sipush 1770, 3) := by decide +kernel
theorem dX11_age_109 : decode cX11_age 109 = .ok (.iload_n 2, 1) := by decide +kernel
theorem dX11_age_110 : decode cX11_age 110 = .ok (.iadd, 1) := by decide +kernel
theorem dX11_age_111 : decode cX11_age 111 = .ok (.iaload, 1) := by decide +kernel
theorem dX11_age_112 : decode cX11_age 112 = .ok (.iastore, 1) := by decide +kernel
theorem dX11_age_113 : decode cX11_age 113 = .ok (.iinc 2 1, 3) := by decide +kernel
theorem dX11_age_116 : decode cX11_age 116 = .ok (.goto (-34), 3) := by decide +kernel
theorem dX11_age_119 : decode cX11_age 119 = .ok (.aload_n 0, 1) := by decide +kernel
theorem dX11_age_120 : decode cX11_age 120 = .ok (.getfield 321, 3) := by decide +kernel
theorem dX11_age_123 : decode cX11_age 123 = .ok (.ireturn, 1) := by decide +kernel
theorem dX11_isLessonAt_0 : decode cX11_isLessonAt 0 = .ok (.iload_n 1, 1) := by decide +kernel
theorem dX11_isLessonAt_1 : decode cX11_isLessonAt 1 = .ok (.i2l, 1) := by decide +kernel
theorem dX11_isLessonAt_2 : decode cX11_isLessonAt 2 = .ok (.lconst 0, 1) := by decide +kernel
theorem dX11_isLessonAt_3 : decode cX11_isLessonAt 3 = .ok (.aload_n 0, 1) := by decide +kernel
theorem dX11_isLessonAt_4 : decode cX11_isLessonAt 4 = .ok (.getfield 35, 3) := by decide +kernel
theorem dX11_isLessonAt_7 : decode cX11_isLessonAt 7 = .ok (.iconst 1, 1) := by decide +kernel
theorem dX11_isLessonAt_8 : decode cX11_isLessonAt 8 = .ok (.iaload, 1) := by decide +kernel
theorem dX11_isLessonAt_9 : decode cX11_isLessonAt 9 = .ok (.iconst 1, 1) := by decide +kernel
theorem dX11_isLessonAt_10 : decode cX11_isLessonAt 10 = .ok (.isub, 1) := by decide +kernel
theorem dX11_isLessonAt_11 : decode cX11_isLessonAt 11 = .ok (.i2l, 1) := by decide +kernel
theorem dX11_isLessonAt_12 : decode cX11_isLessonAt 12 = .ok (.invokestatic 129, 3) := by decide +kernel
theorem dX11_isLessonAt_15 : decode cX11_isLessonAt 15 = .ok (.ireturn, 1) := by decide +kernel
theorem dX11_isChildAt_0 : decode cX11_isChildAt 0 = .ok (.iload_n 1, 1) := by decide +kernel
theorem dX11_isChildAt_1 : decode cX11_isChildAt 1 = .ok (.i2l, 1) := by decide +kernel
theorem dX11_isChildAt_2 : decode cX11_isChildAt 2 = .ok (.lconst 0, 1) := by decide +kernel
theorem dX11_isChildAt_3 : decode cX11_isChildAt 3 = .ok (.aload_n 0, 1) := by decide +kernel
theorem dX11_isChildAt_4 : decode cX11_isChildAt 4 = .ok (.getfield 35, 3) := by decide +kernel
theorem dX11_isChildAt_7 : decode cX11_isChildAt 7 = .ok (.iconst 2, 1) := by decide +kernel
theorem dX11_isChildAt_8 : decode cX11_isChildAt 8 = .ok (.iaload, 1) := by decide +kernel
theorem dX11_isChildAt_9 : decode cX11_isChildAt 9 = .ok (.iconst 1, 1) := by decide +kernel
theorem dX11_isChildAt_10 : decode cX11_isChildAt 10 = .ok (.isub, 1) := by decide +kernel
theorem dX11_isChildAt_11 : decode cX11_isChildAt 11 = .ok (.i2l, 1) := by decide +kernel
theorem dX11_isChildAt_12 : decode cX11_isChildAt 12 = .ok (.invokestatic 129, 3) := by decide +kernel
theorem dX11_isChildAt_15 : decode cX11_isChildAt 15 = .ok (.ireturn, 1) := by decide +kernel
theorem dX11_lengthOf_0 : decode cX11_lengthOf 0 = .ok (.aload_n 0, 1) := by decide +kernel
theorem dX11_lengthOf_1 : decode cX11_lengthOf 1 = .ok (.getfield 35, 3) := by decide +kernel
theorem dX11_lengthOf_4 : decode cX11_lengthOf 4 = .ok (.bipush 76, 2) := by decide +kernel
theorem dX11_lengthOf_6 : decode cX11_lengthOf 6 = .ok (.iload_n 1, 1) := by decide +kernel
theorem dX11_lengthOf_7 : decode cX11_lengthOf 7 = .ok (.iadd, 1) := by decide +kernel
theorem dX11_lengthOf_8 : decode cX11_lengthOf 8 = .ok (.iaload, 1) := by decide +kernel
theorem dX11_lengthOf_9 : decode cX11_lengthOf 9 = .ok (.ireturn, 1) := by decide +kernel
theorem dX11_lessonOf_0 : decode cX11_lessonOf 0 = .ok (.aload_n 0, 1) := by decide +kernel
theorem dX11_lessonOf_1 : decode cX11_lessonOf 1 = .ok (.getfield 35, 3) := by decide +kernel
theorem dX11_lessonOf_4 : decode cX11_lessonOf 4 = .ok (.bipush 80, 2) := by decide +kernel
theorem dX11_lessonOf_6 : decode cX11_lessonOf 6 = .ok (.bipush 12, 2) := by decide +kernel
theorem dX11_lessonOf_8 : decode cX11_lessonOf 8 = .ok (.iload_n 1, 1) := by decide +kernel
theorem dX11_lessonOf_9 : decode cX11_lessonOf 9 = .ok (.imul, 1) := by decide +kernel
theorem dX11_lessonOf_10 : decode cX11_lessonOf 10 = .ok (.iadd, 1) := by decide +kernel
theorem dX11_lessonOf_11 : decode cX11_lessonOf 11 = .ok (.iload_n 2, 1) := by decide +kernel
theorem dX11_lessonOf_12 : decode cX11_lessonOf 12 = .ok (.iadd, 1) := by decide +kernel
theorem dX11_lessonOf_13 : decode cX11_lessonOf 13 = .ok (.iaload, 1) := by decide +kernel
theorem dX11_lessonOf_14 : decode cX11_lessonOf 14 = .ok (.ireturn, 1) := by decide +kernel
theorem dX11_letterOf_0 : decode cX11_letterOf 0 = .ok (.aload_n 0, 1) := by decide +kernel
theorem dX11_letterOf_1 : decode cX11_letterOf 1 = .ok (.getfield 35, 3) := by decide +kernel
theorem dX11_letterOf_4 : decode cX11_letterOf 4 = .ok (.iconst 4, 1) := by decide +kernel
theorem dX11_letterOf_5 : decode cX11_letterOf 5 = .ok (.aload_n 0, 1) := by decide +kernel
theorem dX11_letterOf_6 : decode cX11_letterOf 6 = .ok (.iload_n 1, 1) := by decide +kernel
theorem dX11_letterOf_7 : decode cX11_letterOf 7 = .ok (.iload_n 2, 1) := by decide +kernel
theorem dX11_letterOf_8 : decode cX11_letterOf 8 = .ok (.invokevirtual 330, 3) := by decide +kernel
theorem dX11_letterOf_11 : decode cX11_letterOf 11 = .ok (.iadd, 1) := by decide +kernel
theorem dX11_letterOf_12 : decode cX11_letterOf 12 = .ok (.iaload, 1) := by decide +kernel
theorem dX11_letterOf_13 : decode cX11_letterOf 13 = .ok (.ireturn, 1) := by decide +kernel
theorem dX11_knownOf_0 : decode cX11_knownOf 0 = .ok (.iconst 0, 1) := by decide +kernel
theorem dX11_knownOf_1 : decode cX11_knownOf 1 = .ok (.istore_n 2, 1) := by decide +kernel
theorem dX11_knownOf_2 : decode cX11_knownOf 2 = .ok (.iconst 0, 1) := by decide +kernel
theorem dX11_knownOf_3 : decode cX11_knownOf 3 = .ok (.istore_n 3, 1) := by decide +kernel
theorem dX11_knownOf_4 : decode cX11_knownOf 4 = .ok (.iload_n 3, 1) := by decide +kernel
theorem dX11_knownOf_5 : decode cX11_knownOf 5 = .ok (.aload_n 0, 1) := by decide +kernel
theorem dX11_knownOf_6 : decode cX11_knownOf 6 = .ok (.iload_n 1, 1) := by decide +kernel
theorem dX11_knownOf_7 : decode cX11_knownOf 7 = .ok (.invokevirtual 333, 3) := by decide +kernel
theorem dX11_knownOf_10 : decode cX11_knownOf 10 = .ok (.if_icmp .ge 20, 3) := by decide +kernel
theorem dX11_knownOf_13 : decode cX11_knownOf 13 = .ok (.iload_n 2, 1) := by decide +kernel
theorem dX11_knownOf_14 : decode cX11_knownOf 14 = .ok (.iconst 1, 1) := by decide +kernel
theorem dX11_knownOf_15 : decode cX11_knownOf 15 = .ok (.aload_n 0, 1) := by decide +kernel
theorem dX11_knownOf_16 : decode cX11_knownOf 16 = .ok (.iload_n 1, 1) := by decide +kernel
theorem dX11_knownOf_17 : decode cX11_knownOf 17 = .ok (.iload_n 3, 1) := by decide +kernel
theorem dX11_knownOf_18 : decode cX11_knownOf 18 = .ok (.invokevirtual 330, 3) := by decide +kernel
theorem dX11_knownOf_21 : decode cX11_knownOf 21 = .ok (.ishl, 1) := by decide +kernel
theorem dX11_knownOf_22 : decode cX11_knownOf 22 = .ok (.ior, 1) := by decide +kernel
theorem dX11_knownOf_23 : decode cX11_knownOf 23 = .ok (.istore_n 2, 1) := by decide +kernel
theorem dX11_knownOf_24 : decode cX11_knownOf 24 = .ok (.iinc 3 1, 3) := by decide +kernel
theorem dX11_knownOf_27 : decode cX11_knownOf 27 = .ok (.goto (-23), 3) := by decide +kernel
theorem dX11_knownOf_30 : decode cX11_knownOf 30 = .ok (.iload_n 2, 1) := by decide +kernel
theorem dX11_knownOf_31 : decode cX11_knownOf 31 = .ok (.ireturn, 1) := by decide +kernel
theorem dX11_many_0 : decode cX11_many 0 = .ok (.aload_n 0, 1) := by decide +kernel
theorem dX11_many_1 : decode cX11_many 1 = .ok (.iconst 0, 1) := by decide +kernel
theorem dX11_many_2 : decode cX11_many 2 = .ok (.putfield 94, 3) := by decide +kernel
theorem dX11_many_5 : decode cX11_many 5 = .ok (.aload_n 0, 1) := by decide +kernel
theorem dX11_many_6 : decode cX11_many 6 = .ok (.iconst 0, 1) := by decide +kernel
theorem dX11_many_7 : decode cX11_many 7 = .ok (.putfield 97, 3) := by decide +kernel
theorem dX11_many_10 : decode cX11_many 10 = .ok (.iload_n 1, 1) := by decide +kernel
theorem dX11_many_11 : decode cX11_many 11 = .ok (.i2l, 1) := by decide +kernel
theorem dX11_many_12 : decode cX11_many 12 = .ok (.lconst 0, 1) := by decide +kernel
theorem dX11_many_13 : decode cX11_many 13 = .ok (.ldc2_w 127, 3) := by decide +kernel
theorem dX11_many_16 : decode cX11_many 16 = .ok (.invokestatic 129, 3) := by decide +kernel
theorem dX11_many_19 : decode cX11_many 19 = .ok (.ifCond .eq 12, 3) := by decide +kernel
theorem dX11_many_22 : decode cX11_many 22 = .ok (.aload_n 0, 1) := by decide +kernel
theorem dX11_many_23 : decode cX11_many 23 = .ok (.getfield 35, 3) := by decide +kernel
theorem dX11_many_26 : decode cX11_many 26 = .ok (.iload_n 1, 1) := by decide +kernel
theorem dX11_many_27 : decode cX11_many 27 = .ok (.iaload, 1) := by decide +kernel
theorem dX11_many_28 : decode cX11_many 28 = .ok (.goto 8, 3) := by decide +kernel
theorem dX11_many_31 : decode cX11_many 31 = .ok (.aload_n 0, 1) := by decide +kernel
theorem dX11_many_32 : decode cX11_many 32 = .ok (.iconst 5, 1) := by decide +kernel
theorem dX11_many_33 : decode cX11_many 33 = .ok (.invokevirtual 336, 3) := by decide +kernel
theorem dX11_many_36 : decode cX11_many 36 = .ok (.ireturn, 1) := by decide +kernel
theorem dX11_lesson_0 : decode cX11_lesson 0 = .ok (.aload_n 0, 1) := by decide +kernel
theorem dX11_lesson_1 : decode cX11_lesson 1 = .ok (.iconst 0, 1) := by decide +kernel
theorem dX11_lesson_2 : decode cX11_lesson 2 = .ok (.putfield 94, 3) := by decide +kernel
theorem dX11_lesson_5 : decode cX11_lesson 5 = .ok (.aload_n 0, 1) := by decide +kernel
theorem dX11_lesson_6 : decode cX11_lesson 6 = .ok (.iconst 0, 1) := by decide +kernel
theorem dX11_lesson_7 : decode cX11_lesson 7 = .ok (.putfield 97, 3) := by decide +kernel
theorem dX11_lesson_10 : decode cX11_lesson 10 = .ok (.aload_n 0, 1) := by decide +kernel
theorem dX11_lesson_11 : decode cX11_lesson 11 = .ok (.iload_n 1, 1) := by decide +kernel
theorem dX11_lesson_12 : decode cX11_lesson 12 = .ok (.invokevirtual 339, 3) := by decide +kernel
theorem dX11_lesson_15 : decode cX11_lesson 15 = .ok (.ifCond .ne 9, 3) := by decide +kernel
theorem dX11_lesson_18 : decode cX11_lesson 18 = .ok (.aload_n 0, 1) := by decide +kernel
theorem dX11_lesson_19 : decode cX11_lesson 19 = .ok (.iconst 2, 1) := by decide +kernel
theorem dX11_lesson_20 : decode cX11_lesson 20 = .ok (.invokevirtual 336, 3) := by decide +kernel
theorem dX11_lesson_23 : decode cX11_lesson 23 = .ok (.ireturn, 1) := by decide +kernel
theorem dX11_lesson_24 : decode cX11_lesson 24 = .ok (.iload_n 2, 1) := by decide +kernel
theorem dX11_lesson_25 : decode cX11_lesson 25 = .ok (.tableswitch 105 0 4 #[35, 44, 54, 64, 95], 35) := by decide +kernel
theorem dX11_lesson_60 : decode cX11_lesson 60 = .ok (.aload_n 0, 1) := by decide +kernel
theorem dX11_lesson_61 : decode cX11_lesson 61 = .ok (.getfield 35, 3) := by decide +kernel
theorem dX11_lesson_64 : decode cX11_lesson 64 = .ok (.iconst 4, 1) := by decide +kernel
theorem dX11_lesson_65 : decode cX11_lesson 65 = .ok (.iload_n 1, 1) := by decide +kernel
theorem dX11_lesson_66 : decode cX11_lesson 66 = .ok (.iadd, 1) := by decide +kernel
theorem dX11_lesson_67 : decode cX11_lesson 67 = .ok (.iaload, 1) := by decide +kernel
theorem dX11_lesson_68 : decode cX11_lesson 68 = .ok (.ireturn, 1) := by decide +kernel
theorem dX11_lesson_69 : decode cX11_lesson 69 = .ok (.aload_n 0, 1) := by decide +kernel
theorem dX11_lesson_70 : decode cX11_lesson 70 = .ok (.getfield 35, 3) := by decide +kernel
theorem dX11_lesson_73 : decode cX11_lesson 73 = .ok (.bipush 16, 2) := by decide +kernel
theorem dX11_lesson_75 : decode cX11_lesson 75 = .ok (.iload_n 1, 1) := by decide +kernel
theorem dX11_lesson_76 : decode cX11_lesson 76 = .ok (.iadd, 1) := by decide +kernel
theorem dX11_lesson_77 : decode cX11_lesson 77 = .ok (.iaload, 1) := by decide +kernel
theorem dX11_lesson_78 : decode cX11_lesson 78 = .ok (.ireturn, 1) := by decide +kernel
theorem dX11_lesson_79 : decode cX11_lesson 79 = .ok (.aload_n 0, 1) := by decide +kernel
theorem dX11_lesson_80 : decode cX11_lesson 80 = .ok (.getfield 35, 3) := by decide +kernel
theorem dX11_lesson_83 : decode cX11_lesson 83 = .ok (.bipush 28, 2) := by decide +kernel
theorem dX11_lesson_85 : decode cX11_lesson 85 = .ok (.iload_n 1, 1) := by decide +kernel
theorem dX11_lesson_86 : decode cX11_lesson 86 = .ok (.iadd, 1) := by decide +kernel
theorem dX11_lesson_87 : decode cX11_lesson 87 = .ok (.iaload, 1) := by decide +kernel
theorem dX11_lesson_88 : decode cX11_lesson 88 = .ok (.ireturn, 1) := by decide +kernel
theorem dX11_lesson_89 : decode cX11_lesson 89 = .ok (.aload_n 0, 1) := by decide +kernel
theorem dX11_lesson_90 : decode cX11_lesson 90 = .ok (.getfield 35, 3) := by decide +kernel
theorem dX11_lesson_93 : decode cX11_lesson 93 = .ok (.bipush 40, 2) := by decide +kernel
theorem dX11_lesson_95 : decode cX11_lesson 95 = .ok (.iload_n 1, 1) := by decide +kernel
theorem dX11_lesson_96 : decode cX11_lesson 96 = .ok (.iadd, 1) := by decide +kernel
theorem dX11_lesson_97 : decode cX11_lesson 97 = .ok (.iaload, 1) := by decide +kernel
theorem dX11_lesson_98 : decode cX11_lesson 98 = .ok (.ifCond .ge 12, 3) := by decide +kernel
theorem dX11_lesson_101 : decode cX11_lesson 101 = .ok (.aload_n 0, 1) := by decide +kernel
theorem dX11_lesson_102 : decode cX11_lesson 102 = .ok (.bipush 8, 2) := by decide +kernel
theorem dX11_lesson_104 : decode cX11_lesson 104 = .ok (.invokevirtual 336, 3) := by decide +kernel
theorem dX11_lesson_107 : decode cX11_lesson 107 = .ok (.goto 12, 3) := by decide +kernel
theorem dX11_lesson_110 : decode cX11_lesson 110 = .ok (.aload_n 0, 1) := by decide +kernel
theorem dX11_lesson_111 : decode cX11_lesson 111 = .ok (.getfield 35, 3) := by decide +kernel
theorem dX11_lesson_114 : decode cX11_lesson 114 = .ok (.bipush 40, 2) := by decide +kernel
theorem dX11_lesson_116 : decode cX11_lesson 116 = .ok (.iload_n 1, 1) := by decide +kernel
theorem dX11_lesson_117 : decode cX11_lesson 117 = .ok (.iadd, 1) := by decide +kernel
theorem dX11_lesson_118 : decode cX11_lesson 118 = .ok (.iaload, 1) := by decide +kernel
theorem dX11_lesson_119 : decode cX11_lesson 119 = .ok (.ireturn, 1) := by decide +kernel
theorem dX11_lesson_120 : decode cX11_lesson 120 = .ok (.aload_n 0, 1) := by decide +kernel
theorem dX11_lesson_121 : decode cX11_lesson 121 = .ok (.getfield 35, 3) := by decide +kernel
theorem dX11_lesson_124 : decode cX11_lesson 124 = .ok (.bipush 52, 2) := by decide +kernel
theorem dX11_lesson_126 : decode cX11_lesson 126 = .ok (.iload_n 1, 1) := by decide +kernel
theorem dX11_lesson_127 : decode cX11_lesson 127 = .ok (.iadd, 1) := by decide +kernel
theorem dX11_lesson_128 : decode cX11_lesson 128 = .ok (.iaload, 1) := by decide +kernel
theorem dX11_lesson_129 : decode cX11_lesson 129 = .ok (.ireturn, 1) := by decide +kernel
theorem dX11_lesson_130 : decode cX11_lesson 130 = .ok (.aload_n 0, 1) := by decide +kernel
theorem dX11_lesson_131 : decode cX11_lesson 131 = .ok (.iconst 5, 1) := by decide +kernel
theorem dX11_lesson_132 : decode cX11_lesson 132 = .ok (.invokevirtual 336, 3) := by decide +kernel
theorem dX11_lesson_135 : decode cX11_lesson 135 = .ok (.ireturn, 1) := by decide +kernel
theorem dX11_child_0 : decode cX11_child 0 = .ok (.aload_n 0, 1) := by decide +kernel
theorem dX11_child_1 : decode cX11_child 1 = .ok (.iconst 0, 1) := by decide +kernel
theorem dX11_child_2 : decode cX11_child 2 = .ok (.putfield 94, 3) := by decide +kernel
theorem dX11_child_5 : decode cX11_child 5 = .ok (.aload_n 0, 1) := by decide +kernel
theorem dX11_child_6 : decode cX11_child 6 = .ok (.iconst 0, 1) := by decide +kernel
theorem dX11_child_7 : decode cX11_child 7 = .ok (.putfield 97, 3) := by decide +kernel
theorem dX11_child_10 : decode cX11_child 10 = .ok (.aload_n 0, 1) := by decide +kernel
theorem dX11_child_11 : decode cX11_child 11 = .ok (.iload_n 1, 1) := by decide +kernel
theorem dX11_child_12 : decode cX11_child 12 = .ok (.invokevirtual 342, 3) := by decide +kernel
theorem dX11_child_15 : decode cX11_child 15 = .ok (.ifCond .ne 9, 3) := by decide +kernel
theorem dX11_child_18 : decode cX11_child 18 = .ok (.aload_n 0, 1) := by decide +kernel
theorem dX11_child_19 : decode cX11_child 19 = .ok (.iconst 2, 1) := by decide +kernel
theorem dX11_child_20 : decode cX11_child 20 = .ok (.invokevirtual 336, 3) := by decide +kernel
theorem dX11_child_23 : decode cX11_child 23 = .ok (.ireturn, 1) := by decide +kernel
theorem dX11_child_24 : decode cX11_child 24 = .ok (.iload_n 2, 1) := by decide +kernel
theorem dX11_child_25 : decode cX11_child 25 = .ok (.tableswitch 77 0 4 #[35, 45, 55, 65, 71], 35) := by decide +kernel
theorem dX11_child_60 : decode cX11_child 60 = .ok (.aload_n 0, 1) := by decide +kernel
theorem dX11_child_61 : decode cX11_child 61 = .ok (.getfield 35, 3) := by decide +kernel
theorem dX11_child_64 : decode cX11_child 64 = .ok (.bipush 64, 2) := by decide +kernel
theorem dX11_child_66 : decode cX11_child 66 = .ok (.iload_n 1, 1) := by decide +kernel
theorem dX11_child_67 : decode cX11_child 67 = .ok (.iadd, 1) := by decide +kernel
theorem dX11_child_68 : decode cX11_child 68 = .ok (.iaload, 1) := by decide +kernel
theorem dX11_child_69 : decode cX11_child 69 = .ok (.ireturn, 1) := by decide +kernel
theorem dX11_child_70 : decode cX11_child 70 = .ok (.aload_n 0, 1) := by decide +kernel
theorem dX11_child_71 : decode cX11_child 71 = .ok (.getfield 35, 3) := by decide +kernel
theorem dX11_child_74 : decode cX11_child 74 = .ok (.bipush 68, 2) := by decide +kernel
theorem dX11_child_76 : decode cX11_child 76 = .ok (.iload_n 1, 1) := by decide +kernel
theorem dX11_child_77 : decode cX11_child 77 = .ok (.iadd, 1) := by decide +kernel
theorem dX11_child_78 : decode cX11_child 78 = .ok (.iaload, 1) := by decide +kernel
theorem dX11_child_79 : decode cX11_child 79 = .ok (.ireturn, 1) := by decide +kernel
theorem dX11_child_80 : decode cX11_child 80 = .ok (.aload_n 0, 1) := by decide +kernel
theorem dX11_child_81 : decode cX11_child 81 = .ok (.getfield 35, 3) := by decide +kernel
theorem dX11_child_84 : decode cX11_child 84 = .ok (.bipush 72, 2) := by decide +kernel
theorem dX11_child_86 : decode cX11_child 86 = .ok (.iload_n 1, 1) := by decide +kernel
theorem dX11_child_87 : decode cX11_child 87 = .ok (.iadd, 1) := by decide +kernel
theorem dX11_child_88 : decode cX11_child 88 = .ok (.iaload, 1) := by decide +kernel
theorem dX11_child_89 : decode cX11_child 89 = .ok (.ireturn, 1) := by decide +kernel
theorem dX11_child_90 : decode cX11_child 90 = .ok (.aload_n 0, 1) := by decide +kernel
theorem dX11_child_91 : decode cX11_child 91 = .ok (.iload_n 1, 1) := by decide +kernel
theorem dX11_child_92 : decode cX11_child 92 = .ok (.invokevirtual 333, 3) := by decide +kernel
theorem dX11_child_95 : decode cX11_child 95 = .ok (.ireturn, 1) := by decide +kernel
theorem dX11_child_96 : decode cX11_child 96 = .ok (.aload_n 0, 1) := by decide +kernel
theorem dX11_child_97 : decode cX11_child 97 = .ok (.iload_n 1, 1) := by decide +kernel
theorem dX11_child_98 : decode cX11_child 98 = .ok (.invokevirtual 345, 3) := by decide +kernel
theorem dX11_child_101 : decode cX11_child 101 = .ok (.ireturn, 1) := by decide +kernel
theorem dX11_child_102 : decode cX11_child 102 = .ok (.aload_n 0, 1) := by decide +kernel
theorem dX11_child_103 : decode cX11_child 103 = .ok (.iconst 5, 1) := by decide +kernel
theorem dX11_child_104 : decode cX11_child 104 = .ok (.invokevirtual 336, 3) := by decide +kernel
theorem dX11_child_107 : decode cX11_child 107 = .ok (.ireturn, 1) := by decide +kernel
theorem dX11_letter_0 : decode cX11_letter 0 = .ok (.aload_n 0, 1) := by decide +kernel
theorem dX11_letter_1 : decode cX11_letter 1 = .ok (.iconst 0, 1) := by decide +kernel
theorem dX11_letter_2 : decode cX11_letter 2 = .ok (.putfield 94, 3) := by decide +kernel
theorem dX11_letter_5 : decode cX11_letter 5 = .ok (.aload_n 0, 1) := by decide +kernel
theorem dX11_letter_6 : decode cX11_letter 6 = .ok (.iconst 0, 1) := by decide +kernel
theorem dX11_letter_7 : decode cX11_letter 7 = .ok (.putfield 97, 3) := by decide +kernel
theorem dX11_letter_10 : decode cX11_letter 10 = .ok (.aload_n 0, 1) := by decide +kernel
theorem dX11_letter_11 : decode cX11_letter 11 = .ok (.iload_n 1, 1) := by decide +kernel
theorem dX11_letter_12 : decode cX11_letter 12 = .ok (.invokevirtual 342, 3) := by decide +kernel
theorem dX11_letter_15 : decode cX11_letter 15 = .ok (.ifCond .ne 9, 3) := by decide +kernel
theorem dX11_letter_18 : decode cX11_letter 18 = .ok (.aload_n 0, 1) := by decide +kernel
theorem dX11_letter_19 : decode cX11_letter 19 = .ok (.iconst 2, 1) := by decide +kernel
theorem dX11_letter_20 : decode cX11_letter 20 = .ok (.invokevirtual 336, 3) := by decide +kernel
theorem dX11_letter_23 : decode cX11_letter 23 = .ok (.ireturn, 1) := by decide +kernel
theorem dX11_letter_24 : decode cX11_letter 24 = .ok (.iload_n 3, 1) := by decide +kernel
theorem dX11_letter_25 : decode cX11_letter 25 = .ok (.i2l, 1) := by decide +kernel
theorem dX11_letter_26 : decode cX11_letter 26 = .ok (.lconst 0, 1) := by decide +kernel
theorem dX11_letter_27 : decode cX11_letter 27 = .ok (.lconst 1, 1) := by decide +kernel
theorem dX11_letter_28 : decode cX11_letter 28 = .ok (.invokestatic 129, 3) := by decide +kernel
theorem dX11_letter_31 : decode cX11_letter 31 = .ok (.ifCond .ne 9, 3) := by decide +kernel
theorem dX11_letter_34 : decode cX11_letter 34 = .ok (.aload_n 0, 1) := by decide +kernel
theorem dX11_letter_35 : decode cX11_letter 35 = .ok (.iconst 5, 1) := by decide +kernel
theorem dX11_letter_36 : decode cX11_letter 36 = .ok (.invokevirtual 336, 3) := by decide +kernel
theorem dX11_letter_39 : decode cX11_letter 39 = .ok (.ireturn, 1) := by decide +kernel
theorem dX11_letter_40 : decode cX11_letter 40 = .ok (.iload_n 2, 1) := by decide +kernel
theorem dX11_letter_41 : decode cX11_letter 41 = .ok (.i2l, 1) := by decide +kernel
theorem dX11_letter_42 : decode cX11_letter 42 = .ok (.lconst 0, 1) := by decide +kernel
theorem dX11_letter_43 : decode cX11_letter 43 = .ok (.aload_n 0, 1) := by decide +kernel
theorem dX11_letter_44 : decode cX11_letter 44 = .ok (.iload_n 1, 1) := by decide +kernel
theorem dX11_letter_45 : decode cX11_letter 45 = .ok (.invokevirtual 333, 3) := by decide +kernel
theorem dX11_letter_48 : decode cX11_letter 48 = .ok (.iconst 1, 1) := by decide +kernel
theorem dX11_letter_49 : decode cX11_letter 49 = .ok (.isub, 1) := by decide +kernel
theorem dX11_letter_50 : decode cX11_letter 50 = .ok (.i2l, 1) := by decide +kernel
theorem dX11_letter_51 : decode cX11_letter 51 = .ok (.invokestatic 129, 3) := by decide +kernel
theorem dX11_letter_54 : decode cX11_letter 54 = .ok (.ifCond .ne 10, 3) := by decide +kernel
theorem dX11_letter_57 : decode cX11_letter 57 = .ok (.aload_n 0, 1) := by decide +kernel
theorem dX11_letter_58 : decode cX11_letter 58 = .ok (.bipush 8, 2) := by decide +kernel
theorem dX11_letter_60 : decode cX11_letter 60 = .ok (.invokevirtual 336, 3) := by decide +kernel
theorem dX11_letter_63 : decode cX11_letter 63 = .ok (.ireturn, 1) := by decide +kernel
theorem dX11_letter_64 : decode cX11_letter 64 = .ok (.iload_n 3, 1) := by decide +kernel
theorem dX11_letter_65 : decode cX11_letter 65 = .ok (.ifCond .ne 12, 3) := by decide +kernel
theorem dX11_letter_68 : decode cX11_letter 68 = .ok (.aload_n 0, 1) := by decide +kernel
theorem dX11_letter_69 : decode cX11_letter 69 = .ok (.iload_n 1, 1) := by decide +kernel
theorem dX11_letter_70 : decode cX11_letter 70 = .ok (.iload_n 2, 1) := by decide +kernel
theorem dX11_letter_71 : decode cX11_letter 71 = .ok (.invokevirtual 348, 3) := by decide +kernel
theorem dX11_letter_74 : decode cX11_letter 74 = .ok (.goto 9, 3) := by decide +kernel
theorem dX11_letter_77 : decode cX11_letter 77 = .ok (.aload_n 0, 1) := by decide +kernel
theorem dX11_letter_78 : decode cX11_letter 78 = .ok (.iload_n 1, 1) := by decide +kernel
theorem dX11_letter_79 : decode cX11_letter 79 = .ok (.iload_n 2, 1) := by decide +kernel
theorem dX11_letter_80 : decode cX11_letter 80 = .ok (.invokevirtual 330, 3) := by decide +kernel
theorem dX11_letter_83 : decode cX11_letter 83 = .ok (.ireturn, 1) := by decide +kernel
theorem dX11_teaches_0 : decode cX11_teaches 0 = .ok (.aload_n 0, 1) := by decide +kernel
theorem dX11_teaches_1 : decode cX11_teaches 1 = .ok (.iconst 0, 1) := by decide +kernel
theorem dX11_teaches_2 : decode cX11_teaches 2 = .ok (.putfield 94, 3) := by decide +kernel
theorem dX11_teaches_5 : decode cX11_teaches 5 = .ok (.aload_n 0, 1) := by decide +kernel
theorem dX11_teaches_6 : decode cX11_teaches 6 = .ok (.iconst 0, 1) := by decide +kernel
theorem dX11_teaches_7 : decode cX11_teaches 7 = .ok (.putfield 97, 3) := by decide +kernel
theorem dX11_teaches_10 : decode cX11_teaches 10 = .ok (.iload_n 1, 1) := by decide +kernel
theorem dX11_teaches_11 : decode cX11_teaches 11 = .ok (.i2l, 1) := by decide +kernel
theorem dX11_teaches_12 : decode cX11_teaches 12 = .ok (.lconst 0, 1) := by decide +kernel
theorem dX11_teaches_13 : decode cX11_teaches 13 = .ok (.aload_n 0, 1) := by decide +kernel
theorem dX11_teaches_14 : decode cX11_teaches 14 = .ok (.getfield 35, 3) := by decide +kernel
theorem dX11_teaches_17 : decode cX11_teaches 17 = .ok (.iconst 0, 1) := by decide +kernel
theorem dX11_teaches_18 : decode cX11_teaches 18 = .ok (.iaload, 1) := by decide +kernel
theorem dX11_teaches_19 : decode cX11_teaches 19 = .ok (.iconst 1, 1) := by decide +kernel
theorem dX11_teaches_20 : decode cX11_teaches 20 = .ok (.isub, 1) := by decide +kernel
theorem dX11_teaches_21 : decode cX11_teaches 21 = .ok (.i2l, 1) := by decide +kernel
theorem dX11_teaches_22 : decode cX11_teaches 22 = .ok (.invokestatic 129, 3) := by decide +kernel
theorem dX11_teaches_25 : decode cX11_teaches 25 = .ok (.ifCond .ne 9, 3) := by decide +kernel
theorem dX11_teaches_28 : decode cX11_teaches 28 = .ok (.aload_n 0, 1) := by decide +kernel
theorem dX11_teaches_29 : decode cX11_teaches 29 = .ok (.iconst 2, 1) := by decide +kernel
theorem dX11_teaches_30 : decode cX11_teaches 30 = .ok (.invokevirtual 336, 3) := by decide +kernel
theorem dX11_teaches_33 : decode cX11_teaches 33 = .ok (.ireturn, 1) := by decide +kernel
theorem dX11_teaches_34 : decode cX11_teaches 34 = .ok (.iconst 0, 1) := by decide +kernel
theorem dX11_teaches_35 : decode cX11_teaches 35 = .ok (.istore_n 2, 1) := by decide +kernel
theorem dX11_teaches_36 : decode cX11_teaches 36 = .ok (.iconst 0, 1) := by decide +kernel
theorem dX11_teaches_37 : decode cX11_teaches 37 = .ok (.istore_n 3, 1) := by decide +kernel
theorem dX11_teaches_38 : decode cX11_teaches 38 = .ok (.iload_n 3, 1) := by decide +kernel
theorem dX11_teaches_39 : decode cX11_teaches 39 = .ok (.aload_n 0, 1) := by decide +kernel
theorem dX11_teaches_40 : decode cX11_teaches 40 = .ok (.getfield 35, 3) := by decide +kernel
theorem dX11_teaches_43 : decode cX11_teaches 43 = .ok (.iconst 1, 1) := by decide +kernel
theorem dX11_teaches_44 : decode cX11_teaches 44 = .ok (.iaload, 1) := by decide +kernel
theorem dX11_teaches_45 : decode cX11_teaches 45 = .ok (.if_icmp .ge 32, 3) := by decide +kernel
theorem dX11_teaches_48 : decode cX11_teaches 48 = .ok (.iload_n 2, 1) := by decide +kernel
theorem dX11_teaches_49 : decode cX11_teaches 49 = .ok (.aload_n 0, 1) := by decide +kernel
theorem dX11_teaches_50 : decode cX11_teaches 50 = .ok (.getfield 35, 3) := by decide +kernel
theorem dX11_teaches_53 : decode cX11_teaches 53 = .ok (.bipush 40, 2) := by decide +kernel
theorem dX11_teaches_55 : decode cX11_teaches 55 = .ok (.iload_n 3, 1) := by decide +kernel
theorem dX11_teaches_56 : decode cX11_teaches 56 = .ok (.iadd, 1) := by decide +kernel
theorem dX11_teaches_57 : decode cX11_teaches 57 = .ok (.iaload, 1) := by decide +kernel
theorem dX11_teaches_58 : decode cX11_teaches 58 = .ok (.iload_n 1, 1) := by decide +kernel
theorem dX11_teaches_59 : decode cX11_teaches 59 = .ok (.if_icmp .ne 9, 3) := by decide +kernel
theorem dX11_teaches_62 : decode cX11_teaches 62 = .ok (.iconst 1, 1) := by decide +kernel
theorem dX11_teaches_63 : decode cX11_teaches 63 = .ok (.iload_n 3, 1) := by decide +kernel
theorem dX11_teaches_64 : decode cX11_teaches 64 = .ok (.ishl, 1) := by decide +kernel
theorem dX11_teaches_65 : decode cX11_teaches 65 = .ok (.goto 4, 3) := by decide +kernel
theorem dX11_teaches_68 : decode cX11_teaches 68 = .ok (.iconst 0, 1) := by decide +kernel
theorem dX11_teaches_69 : decode cX11_teaches 69 = .ok (.ior, 1) := by decide +kernel
theorem dX11_teaches_70 : decode cX11_teaches 70 = .ok (.istore_n 2, 1) := by decide +kernel
theorem dX11_teaches_71 : decode cX11_teaches 71 = .ok (.iinc 3 1, 3) := by decide +kernel
theorem dX11_teaches_74 : decode cX11_teaches 74 = .ok (.goto (-36), 3) := by decide +kernel
theorem dX11_teaches_77 : decode cX11_teaches 77 = .ok (.iload_n 2, 1) := by decide +kernel
theorem dX11_teaches_78 : decode cX11_teaches 78 = .ok (.ireturn, 1) := by decide +kernel
theorem dX11_copyName_0 : decode cX11_copyName 0 = .ok (.aload_n 0, 1) := by decide +kernel
theorem dX11_copyName_1 : decode cX11_copyName 1 = .ok (.iconst 0, 1) := by decide +kernel
theorem dX11_copyName_2 : decode cX11_copyName 2 = .ok (.putfield 94, 3) := by decide +kernel
theorem dX11_copyName_5 : decode cX11_copyName 5 = .ok (.aload_n 0, 1) := by decide +kernel
theorem dX11_copyName_6 : decode cX11_copyName 6 = .ok (.iconst 0, 1) := by decide +kernel
theorem dX11_copyName_7 : decode cX11_copyName 7 = .ok (.putfield 97, 3) := by decide +kernel
theorem dX11_copyName_10 : decode cX11_copyName 10 = .ok (.aload_n 0, 1) := by decide +kernel
theorem dX11_copyName_11 : decode cX11_copyName 11 = .ok (.iload_n 2, 1) := by decide +kernel
theorem dX11_copyName_12 : decode cX11_copyName 12 = .ok (.invokevirtual 351, 3) := by decide +kernel
theorem dX11_copyName_15 : decode cX11_copyName 15 = .ok (.ifCond .ne 9, 3) := by decide +kernel
theorem dX11_copyName_18 : decode cX11_copyName 18 = .ok (.aload_n 0, 1) := by decide +kernel
theorem dX11_copyName_19 : decode cX11_copyName 19 = .ok (.iconst 1, 1) := by decide +kernel
theorem dX11_copyName_20 : decode cX11_copyName 20 = .ok (.invokevirtual 336, 3) := by decide +kernel
theorem dX11_copyName_23 : decode cX11_copyName 23 = .ok (.ireturn, 1) := by decide +kernel
theorem dX11_copyName_24 : decode cX11_copyName 24 = .ok (.aload_n 0, 1) := by decide +kernel
theorem dX11_copyName_25 : decode cX11_copyName 25 = .ok (.getfield 17, 3) := by decide +kernel
theorem dX11_copyName_28 : decode cX11_copyName 28 = .ok (.iload_n 2, 1) := by decide +kernel
theorem dX11_copyName_29 : decode cX11_copyName 29 = .ok (.iaload, 1) := by decide +kernel
theorem dX11_copyName_30 : decode cX11_copyName 30 = .ok (.ifCond .ge 9, 3) := by decide +kernel
theorem dX11_copyName_33 : decode cX11_copyName 33 = .ok (.aload_n 0, 1) := by decide +kernel
theorem dX11_copyName_34 : decode cX11_copyName 34 = .ok (.iconst 3, 1) := by decide +kernel
theorem dX11_copyName_35 : decode cX11_copyName 35 = .ok (.invokevirtual 336, 3) := by decide +kernel
theorem dX11_copyName_38 : decode cX11_copyName 38 = .ok (.ireturn, 1) := by decide +kernel
theorem dX11_copyName_39 : decode cX11_copyName 39 = .ok (.aload_n 0, 1) := by decide +kernel
theorem dX11_copyName_40 : decode cX11_copyName 40 = .ok (.iload_n 1, 1) := by decide +kernel
theorem dX11_copyName_41 : decode cX11_copyName 41 = .ok (.invokevirtual 342, 3) := by decide +kernel
theorem dX11_copyName_44 : decode cX11_copyName 44 = .ok (.ifCond .ne 9, 3) := by decide +kernel
theorem dX11_copyName_47 : decode cX11_copyName 47 = .ok (.aload_n 0, 1) := by decide +kernel
theorem dX11_copyName_48 : decode cX11_copyName 48 = .ok (.iconst 2, 1) := by decide +kernel
theorem dX11_copyName_49 : decode cX11_copyName 49 = .ok (.invokevirtual 336, 3) := by decide +kernel
theorem dX11_copyName_52 : decode cX11_copyName 52 = .ok (.ireturn, 1) := by decide +kernel
theorem dX11_copyName_53 : decode cX11_copyName 53 = .ok (.aload_n 0, 1) := by decide +kernel
theorem dX11_copyName_54 : decode cX11_copyName 54 = .ok (.getfield 17, 3) := by decide +kernel
theorem dX11_copyName_57 : decode cX11_copyName 57 = .ok (.iload_n 2, 1) := by decide +kernel
theorem dX11_copyName_58 : decode cX11_copyName 58 = .ok (.iaload, 1) := by decide +kernel
theorem dX11_copyName_59 : decode cX11_copyName 59 = .ok (.aload_n 0, 1) := by decide +kernel
theorem dX11_copyName_60 : decode cX11_copyName 60 = .ok (.iload_n 1, 1) := by decide +kernel
theorem dX11_copyName_61 : decode cX11_copyName 61 = .ok (.invokevirtual 333, 3) := by decide +kernel
theorem dX11_copyName_64 : decode cX11_copyName 64 = .ok (.if_icmp .ge 9, 3) := by decide +kernel
theorem dX11_copyName_67 : decode cX11_copyName 67 = .ok (.aload_n 0, 1) := by decide +kernel
theorem dX11_copyName_68 : decode cX11_copyName 68 = .ok (.iconst 4, 1) := by decide +kernel
theorem dX11_copyName_69 : decode cX11_copyName 69 = .ok (.invokevirtual 336, 3) := by decide +kernel
theorem dX11_copyName_72 : decode cX11_copyName 72 = .ok (.ireturn, 1) := by decide +kernel
theorem dX11_copyName_73 : decode cX11_copyName 73 = .ok (.iconst 0, 1) := by decide +kernel
theorem dX11_copyName_74 : decode cX11_copyName 74 = .ok (.istore_n 3, 1) := by decide +kernel
theorem dX11_copyName_75 : decode cX11_copyName 75 = .ok (.iload_n 3, 1) := by decide +kernel
theorem dX11_copyName_76 : decode cX11_copyName 76 = .ok (.aload_n 0, 1) := by decide +kernel
theorem dX11_copyName_77 : decode cX11_copyName 77 = .ok (.iload_n 1, 1) := by decide +kernel
theorem dX11_copyName_78 : decode cX11_copyName 78 = .ok (.invokevirtual 333, 3) := by decide +kernel
theorem dX11_copyName_81 : decode cX11_copyName 81 = .ok (.if_icmp .ge 27, 3) := by decide +kernel
theorem dX11_copyName_84 : decode cX11_copyName 84 = .ok (.aload_n 0, 1) := by decide +kernel
theorem dX11_copyName_85 : decode cX11_copyName 85 = .ok (.getfield 20, 3) := by decide +kernel
theorem dX11_copyName_88 : decode cX11_copyName 88 = .ok (.bipush 60, 2) := by decide +kernel
theorem dX11_copyName_90 : decode cX11_copyName 90 = .ok (.iload_n 2, 1) := by decide +kernel
theorem dX11_copyName_91 : decode cX11_copyName 91 = .ok (.imul, 1) := by decide +kernel
theorem dX11_copyName_92 : decode cX11_copyName 92 = .ok (.iload_n 3, 1) := by decide +kernel
theorem dX11_copyName_93 : decode cX11_copyName 93 = .ok (.iadd, 1) := by decide +kernel
theorem dX11_copyName_94 : decode cX11_copyName 94 = .ok (.aload_n 0, 1) := by decide +kernel
theorem dX11_copyName_95 : decode cX11_copyName 95 = .ok (.iload_n 1, 1) := by decide +kernel
theorem dX11_copyName_96 : decode cX11_copyName 96 = .ok (.iload_n 3, 1) := by decide +kernel
theorem dX11_copyName_97 : decode cX11_copyName 97 = .ok (.invokevirtual 348, 3) := by decide +kernel
theorem dX11_copyName_100 : decode cX11_copyName 100 = .ok (.i2l, 1) := by decide +kernel
theorem dX11_copyName_101 : decode cX11_copyName 101 = .ok (.lastore, 1) := by decide +kernel
theorem dX11_copyName_102 : decode cX11_copyName 102 = .ok (.iinc 3 1, 3) := by decide +kernel
theorem dX11_copyName_105 : decode cX11_copyName 105 = .ok (.goto (-30), 3) := by decide +kernel
theorem dX11_copyName_108 : decode cX11_copyName 108 = .ok (.aload_n 0, 1) := by decide +kernel
theorem dX11_copyName_109 : decode cX11_copyName 109 = .ok (.iload_n 1, 1) := by decide +kernel
theorem dX11_copyName_110 : decode cX11_copyName 110 = .ok (.invokevirtual 333, 3) := by decide +kernel
theorem dX11_copyName_113 : decode cX11_copyName 113 = .ok (.ireturn, 1) := by decide +kernel
theorem dX11_daysOf_0 : decode cX11_daysOf 0 = .ok (.iconst 1, 1) := by decide +kernel
theorem dX11_daysOf_1 : decode cX11_daysOf 1 = .ok (.aload_n 0, 1) := by decide +kernel
theorem dX11_daysOf_2 : decode cX11_daysOf 2 = .ok (.getfield 35, 3) := by decide +kernel
theorem dX11_daysOf_5 : decode cX11_daysOf 5 = .ok (.bipush 16, 2) := by decide +kernel
theorem dX11_daysOf_7 : decode cX11_daysOf 7 = .ok (.iload_n 2, 1) := by decide +kernel
theorem dX11_daysOf_8 : decode cX11_daysOf 8 = .ok (.iadd, 1) := by decide +kernel
theorem dX11_daysOf_9 : decode cX11_daysOf 9 = .ok (.iaload, 1) := by decide +kernel
theorem dX11_daysOf_10 : decode cX11_daysOf 10 = .ok (.aload_n 0, 1) := by decide +kernel
theorem dX11_daysOf_11 : decode cX11_daysOf 11 = .ok (.getfield 35, 3) := by decide +kernel
theorem dX11_daysOf_14 : decode cX11_daysOf 14 = .ok (.bipush 64, 2) := by decide +kernel
theorem dX11_daysOf_16 : decode cX11_daysOf 16 = .ok (.iload_n 1, 1) := by decide +kernel
theorem dX11_daysOf_17 : decode cX11_daysOf 17 = .ok (.iadd, 1) := by decide +kernel
theorem dX11_daysOf_18 : decode cX11_daysOf 18 = .ok (.iaload, 1) := by decide +kernel
theorem dX11_daysOf_19 : decode cX11_daysOf 19 = .ok (.isub, 1) := by decide +kernel
theorem dX11_daysOf_20 : decode cX11_daysOf 20 = .ok (.invokestatic 264, 3) := by decide +kernel
theorem dX11_daysOf_23 : decode cX11_daysOf 23 = .ok (.ireturn, 1) := by decide +kernel
theorem dX11_isOpenTo_0 : decode cX11_isOpenTo 0 = .ok (.iload_n 1, 1) := by decide +kernel
theorem dX11_isOpenTo_1 : decode cX11_isOpenTo 1 = .ok (.iload_n 2, 1) := by decide +kernel
theorem dX11_isOpenTo_2 : decode cX11_isOpenTo 2 = .ok (.invokestatic 277, 3) := by decide +kernel
theorem dX11_isOpenTo_5 : decode cX11_isOpenTo 5 = .ok (.ifCond .ne 23, 3) := by decide +kernel
theorem dX11_isOpenTo_8 : decode cX11_isOpenTo 8 = .ok (.aload_n 0, 1) := by decide +kernel
theorem dX11_isOpenTo_9 : decode cX11_isOpenTo 9 = .ok (.getfield 35, 3) := by decide +kernel
theorem dX11_isOpenTo_12 : decode cX11_isOpenTo 12 = .ok (.bipush 52, 2) := by decide +kernel
theorem dX11_isOpenTo_14 : decode cX11_isOpenTo 14 = .ok (.iload_n 2, 1) := by decide +kernel
theorem dX11_isOpenTo_15 : decode cX11_isOpenTo 15 = .ok (.iadd, 1) := by decide +kernel
theorem dX11_isOpenTo_16 : decode cX11_isOpenTo 16 = .ok (.iaload, 1) := by decide +kernel
theorem dX11_isOpenTo_17 : decode cX11_isOpenTo 17 = .ok (.iload_n 1, 1) := by decide +kernel
theorem dX11_isOpenTo_18 : decode cX11_isOpenTo 18 = .ok (.iconst (-1), 1) := by decide +kernel
theorem dX11_isOpenTo_19 : decode cX11_isOpenTo 19 = .ok (.ixor, 1) := by decide +kernel
theorem dX11_isOpenTo_20 : decode cX11_isOpenTo 20 = .ok (.iand, 1) := by decide +kernel
theorem dX11_isOpenTo_21 : decode cX11_isOpenTo 21 = .ok (.ifCond .ne 7, 3) := by decide +kernel
theorem dX11_isOpenTo_24 : decode cX11_isOpenTo 24 = .ok (.iconst 1, 1) := by decide +kernel
theorem dX11_isOpenTo_25 : decode cX11_isOpenTo 25 = .ok (.goto 4, 3) := by decide +kernel
theorem dX11_isOpenTo_28 : decode cX11_isOpenTo 28 = .ok (.iconst 0, 1) := by decide +kernel
theorem dX11_isOpenTo_29 : decode cX11_isOpenTo 29 = .ok (.ireturn, 1) := by decide +kernel
theorem dX11_whyNot_0 : decode cX11_whyNot 0 = .ok (.aload_n 0, 1) := by decide +kernel
theorem dX11_whyNot_1 : decode cX11_whyNot 1 = .ok (.aload_n 0, 1) := by decide +kernel
theorem dX11_whyNot_2 : decode cX11_whyNot 2 = .ok (.iload_n 1, 1) := by decide +kernel
theorem dX11_whyNot_3 : decode cX11_whyNot 3 = .ok (.invokevirtual 345, 3) := by decide +kernel
theorem dX11_whyNot_6 : decode cX11_whyNot 6 = .ok (.iload_n 2, 1) := by decide +kernel
theorem dX11_whyNot_7 : decode cX11_whyNot 7 = .ok (.invokevirtual 354, 3) := by decide +kernel
theorem dX11_whyNot_10 : decode cX11_whyNot 10 = .ok (.ifCond .ne 8, 3) := by decide +kernel
theorem dX11_whyNot_13 : decode cX11_whyNot 13 = .ok (.bipush 9, 2) := by decide +kernel
theorem dX11_whyNot_15 : decode cX11_whyNot 15 = .ok (.goto 30, 3) := by decide +kernel
theorem dX11_whyNot_18 : decode cX11_whyNot 18 = .ok (.aload_n 0, 1) := by decide +kernel
theorem dX11_whyNot_19 : decode cX11_whyNot 19 = .ok (.getfield 35, 3) := by decide +kernel
theorem dX11_whyNot_22 : decode cX11_whyNot 22 = .ok (.bipush 68, 2) := by decide +kernel
theorem dX11_whyNot_24 : decode cX11_whyNot 24 = .ok (.iload_n 1, 1) := by decide +kernel
theorem dX11_whyNot_25 : decode cX11_whyNot 25 = .ok (.iadd, 1) := by decide +kernel
theorem dX11_whyNot_26 : decode cX11_whyNot 26 = .ok (.iaload, 1) := by decide +kernel
theorem dX11_whyNot_27 : decode cX11_whyNot 27 = .ok (.aload_n 0, 1) := by decide +kernel
theorem dX11_whyNot_28 : decode cX11_whyNot 28 = .ok (.getfield 35, 3) := by decide +kernel
theorem dX11_whyNot_31 : decode cX11_whyNot 31 = .ok (.bipush 28, 2) := by decide +kernel
theorem dX11_whyNot_33 : decode cX11_whyNot 33 = .ok (.iload_n 2, 1) := by decide +kernel
theorem dX11_whyNot_34 : decode cX11_whyNot 34 = .ok (.iadd, 1) := by decide +kernel
theorem dX11_whyNot_35 : decode cX11_whyNot 35 = .ok (.iaload, 1) := by decide +kernel
theorem dX11_whyNot_36 : decode cX11_whyNot 36 = .ok (.if_icmp .ge 8, 3) := by decide +kernel
theorem dX11_whyNot_39 : decode cX11_whyNot 39 = .ok (.bipush 7, 2) := by decide +kernel
theorem dX11_whyNot_41 : decode cX11_whyNot 41 = .ok (.goto 4, 3) := by decide +kernel
theorem dX11_whyNot_44 : decode cX11_whyNot 44 = .ok (.iconst 0, 1) := by decide +kernel
theorem dX11_whyNot_45 : decode cX11_whyNot 45 = .ok (.ireturn, 1) := by decide +kernel
theorem dX11_learns_0 : decode cX11_learns 0 = .ok (.aload_n 0, 1) := by decide +kernel
theorem dX11_learns_1 : decode cX11_learns 1 = .ok (.getfield 35, 3) := by decide +kernel
theorem dX11_learns_4 : decode cX11_learns 4 = .ok (.bipush 80, 2) := by decide +kernel
theorem dX11_learns_6 : decode cX11_learns 6 = .ok (.bipush 12, 2) := by decide +kernel
theorem dX11_learns_8 : decode cX11_learns 8 = .ok (.iload_n 1, 1) := by decide +kernel
theorem dX11_learns_9 : decode cX11_learns 9 = .ok (.imul, 1) := by decide +kernel
theorem dX11_learns_10 : decode cX11_learns 10 = .ok (.iadd, 1) := by decide +kernel
theorem dX11_learns_11 : decode cX11_learns 11 = .ok (.aload_n 0, 1) := by decide +kernel
theorem dX11_learns_12 : decode cX11_learns 12 = .ok (.iload_n 1, 1) := by decide +kernel
theorem dX11_learns_13 : decode cX11_learns 13 = .ok (.invokevirtual 333, 3) := by decide +kernel
theorem dX11_learns_16 : decode cX11_learns 16 = .ok (.iadd, 1) := by decide +kernel
theorem dX11_learns_17 : decode cX11_learns 17 = .ok (.iload_n 2, 1) := by decide +kernel
theorem dX11_learns_18 : decode cX11_learns 18 = .ok (.iastore, 1) := by decide +kernel
theorem dX11_learns_19 : decode cX11_learns 19 = .ok (.aload_n 0, 1) := by decide +kernel
theorem dX11_learns_20 : decode cX11_learns 20 = .ok (.getfield 35, 3) := by decide +kernel
theorem dX11_learns_23 : decode cX11_learns 23 = .ok (.bipush 76, 2) := by decide +kernel
theorem dX11_learns_25 : decode cX11_learns 25 = .ok (.iload_n 1, 1) := by decide +kernel
theorem dX11_learns_26 : decode cX11_learns 26 = .ok (.iadd, 1) := by decide +kernel
theorem dX11_learns_27 : decode cX11_learns 27 = .ok (.dup2, 1) := by decide +kernel
theorem dX11_learns_28 : decode cX11_learns 28 = .ok (.iaload, 1) := by decide +kernel
theorem dX11_learns_29 : decode cX11_learns 29 = .ok (.iconst 1, 1) := by decide +kernel
theorem dX11_learns_30 : decode cX11_learns 30 = .ok (.iadd, 1) := by decide +kernel
theorem dX11_learns_31 : decode cX11_learns 31 = .ok (.iastore, 1) := by decide +kernel
theorem dX11_learns_32 : decode cX11_learns 32 = .ok (.aload_n 0, 1) := by decide +kernel
theorem dX11_learns_33 : decode cX11_learns 33 = .ok (.getfield 35, 3) := by decide +kernel
theorem dX11_learns_36 : decode cX11_learns 36 = .ok (.bipush 72, 2) := by decide +kernel
theorem dX11_learns_38 : decode cX11_learns 38 = .ok (.iload_n 1, 1) := by decide +kernel
theorem dX11_learns_39 : decode cX11_learns 39 = .ok (.iadd, 1) := by decide +kernel
theorem dX11_learns_40 : decode cX11_learns 40 = .ok (.dup2, 1) := by decide +kernel
theorem dX11_learns_41 : decode cX11_learns 41 = .ok (.iaload, 1) := by decide +kernel
theorem dX11_learns_42 : decode cX11_learns 42 = .ok (.aload_n 0, 1) := by decide +kernel
theorem dX11_learns_43 : decode cX11_learns 43 = .ok (.iload_n 1, 1) := by decide +kernel
theorem dX11_learns_44 : decode cX11_learns 44 = .ok (.iload_n 2, 1) := by decide +kernel
theorem dX11_learns_45 : decode cX11_learns 45 = .ok (.invokevirtual 357, 3) := by decide +kernel
theorem dX11_learns_48 : decode cX11_learns 48 = .ok (.iadd, 1) := by decide +kernel
theorem dX11_learns_49 : decode cX11_learns 49 = .ok (.iastore, 1) := by decide +kernel
theorem dX11_learns_50 : decode cX11_learns 50 = .ok (.aload_n 0, 1) := by decide +kernel
theorem dX11_learns_51 : decode cX11_learns 51 = .ok (.getfield 35, 3) := by decide +kernel
theorem dX11_learns_54 : decode cX11_learns 54 = .ok (.bipush 68, 2) := by decide +kernel
theorem dX11_learns_56 : decode cX11_learns 56 = .ok (.iload_n 1, 1) := by decide +kernel
theorem dX11_learns_57 : decode cX11_learns 57 = .ok (.iadd, 1) := by decide +kernel
theorem dX11_learns_58 : decode cX11_learns 58 = .ok (.dup2, 1) := by decide +kernel
theorem dX11_learns_59 : decode cX11_learns 59 = .ok (.iaload, 1) := by decide +kernel
theorem dX11_learns_60 : decode cX11_learns 60 = .ok (.aload_n 0, 1) := by decide +kernel
theorem dX11_learns_61 : decode cX11_learns 61 = .ok (.getfield 35, 3) := by decide +kernel
theorem dX11_learns_64 : decode cX11_learns 64 = .ok (.bipush 28, 2) := by decide +kernel
theorem dX11_learns_66 : decode cX11_learns 66 = .ok (.iload_n 2, 1) := by decide +kernel
theorem dX11_learns_67 : decode cX11_learns 67 = .ok (.iadd, 1) := by decide +kernel
theorem dX11_learns_68 : decode cX11_learns 68 = .ok (.iaload, 1) := by decide +kernel
theorem dX11_learns_69 : decode cX11_learns 69 = .ok (.isub, 1) := by decide +kernel
theorem dX11_learns_70 : decode cX11_learns 70 = .ok (.iastore, 1) := by decide +kernel
theorem dX11_learns_71 : decode cX11_learns 71 = .ok (.return_, 1) := by decide +kernel
theorem dX11_learn_0 : decode cX11_learn 0 = .ok (.aload_n 0, 1) := by decide +kernel
theorem dX11_learn_1 : decode cX11_learn 1 = .ok (.iconst 0, 1) := by decide +kernel
theorem dX11_learn_2 : decode cX11_learn 2 = .ok (.putfield 94, 3) := by decide +kernel
theorem dX11_learn_5 : decode cX11_learn 5 = .ok (.aload_n 0, 1) := by decide +kernel
theorem dX11_learn_6 : decode cX11_learn 6 = .ok (.iconst 0, 1) := by decide +kernel
theorem dX11_learn_7 : decode cX11_learn 7 = .ok (.putfield 97, 3) := by decide +kernel
theorem dX11_learn_10 : decode cX11_learn 10 = .ok (.aload_n 0, 1) := by decide +kernel
theorem dX11_learn_11 : decode cX11_learn 11 = .ok (.iload_n 1, 1) := by decide +kernel
theorem dX11_learn_12 : decode cX11_learn 12 = .ok (.invokevirtual 342, 3) := by decide +kernel
theorem dX11_learn_15 : decode cX11_learn 15 = .ok (.ifCond .eq 11, 3) := by decide +kernel
theorem dX11_learn_18 : decode cX11_learn 18 = .ok (.aload_n 0, 1) := by decide +kernel
theorem dX11_learn_19 : decode cX11_learn 19 = .ok (.iload_n 2, 1) := by decide +kernel
theorem dX11_learn_20 : decode cX11_learn 20 = .ok (.invokevirtual 339, 3) := by decide +kernel
theorem dX11_learn_23 : decode cX11_learn 23 = .ok (.ifCond .ne 9, 3) := by decide +kernel
theorem dX11_learn_26 : decode cX11_learn 26 = .ok (.aload_n 0, 1) := by decide +kernel
theorem dX11_learn_27 : decode cX11_learn 27 = .ok (.iconst 2, 1) := by decide +kernel
theorem dX11_learn_28 : decode cX11_learn 28 = .ok (.invokevirtual 336, 3) := by decide +kernel
theorem dX11_learn_31 : decode cX11_learn 31 = .ok (.ireturn, 1) := by decide +kernel
theorem dX11_learn_32 : decode cX11_learn 32 = .ok (.aload_n 0, 1) := by decide +kernel
theorem dX11_learn_33 : decode cX11_learn 33 = .ok (.iload_n 1, 1) := by decide +kernel
theorem dX11_learn_34 : decode cX11_learn 34 = .ok (.iload_n 2, 1) := by decide +kernel
theorem dX11_learn_35 : decode cX11_learn 35 = .ok (.invokevirtual 360, 3) := by decide +kernel
theorem dX11_learn_38 : decode cX11_learn 38 = .ok (.istore_n 3, 1) := by decide +kernel
theorem dX11_learn_39 : decode cX11_learn 39 = .ok (.iload_n 3, 1) := by decide +kernel
theorem dX11_learn_40 : decode cX11_learn 40 = .ok (.ifCond .le 9, 3) := by decide +kernel
theorem dX11_learn_43 : decode cX11_learn 43 = .ok (.aload_n 0, 1) := by decide +kernel
theorem dX11_learn_44 : decode cX11_learn 44 = .ok (.iload_n 3, 1) := by decide +kernel
theorem dX11_learn_45 : decode cX11_learn 45 = .ok (.invokevirtual 336, 3) := by decide +kernel
theorem dX11_learn_48 : decode cX11_learn 48 = .ok (.ireturn, 1) := by decide +kernel
theorem dX11_learn_49 : decode cX11_learn 49 = .ok (.aload_n 0, 1) := by decide +kernel
theorem dX11_learn_50 : decode cX11_learn 50 = .ok (.iload_n 1, 1) := by decide +kernel
theorem dX11_learn_51 : decode cX11_learn 51 = .ok (.iload_n 2, 1) := by decide +kernel
theorem dX11_learn_52 : decode cX11_learn 52 = .ok (.invokevirtual 363, 3) := by decide +kernel
theorem dX11_learn_55 : decode cX11_learn 55 = .ok (.aload_n 0, 1) := by decide +kernel
theorem dX11_learn_56 : decode cX11_learn 56 = .ok (.iload_n 1, 1) := by decide +kernel
theorem dX11_learn_57 : decode cX11_learn 57 = .ok (.invokevirtual 333, 3) := by decide +kernel
theorem dX11_learn_60 : decode cX11_learn 60 = .ok (.ireturn, 1) := by decide +kernel
theorem dX11_loses_0 : decode cX11_loses 0 = .ok (.aload_n 0, 1) := by decide +kernel
theorem dX11_loses_1 : decode cX11_loses 1 = .ok (.iload_n 1, 1) := by decide +kernel
theorem dX11_loses_2 : decode cX11_loses 2 = .ok (.iload_n 2, 1) := by decide +kernel
theorem dX11_loses_3 : decode cX11_loses 3 = .ok (.invokevirtual 330, 3) := by decide +kernel
theorem dX11_loses_6 : decode cX11_loses 6 = .ok (.istore_n 3, 1) := by decide +kernel
theorem dX11_loses_7 : decode cX11_loses 7 = .ok (.iload_n 2, 1) := by decide +kernel
theorem dX11_loses_8 : decode cX11_loses 8 = .ok (.istore 4, 2) := by decide +kernel
theorem dX11_loses_10 : decode cX11_loses 10 = .ok (.iload 4, 2) := by decide +kernel
theorem dX11_loses_12 : decode cX11_loses 12 = .ok (.aload_n 0, 1) := by decide +kernel
theorem dX11_loses_13 : decode cX11_loses 13 = .ok (.iload_n 1, 1) := by decide +kernel
theorem dX11_loses_14 : decode cX11_loses 14 = .ok (.invokevirtual 333, 3) := by decide +kernel
theorem dX11_loses_17 : decode cX11_loses 17 = .ok (.iconst 1, 1) := by decide +kernel
theorem dX11_loses_18 : decode cX11_loses 18 = .ok (.isub, 1) := by decide +kernel
theorem dX11_loses_19 : decode cX11_loses 19 = .ok (.if_icmp .ge 33, 3) := by decide +kernel
theorem dX11_loses_22 : decode cX11_loses 22 = .ok (.aload_n 0, 1) := by decide +kernel
theorem dX11_loses_23 : decode cX11_loses 23 = .ok (.getfield 35, 3) := by decide +kernel
theorem dX11_loses_26 : decode cX11_loses 26 = .ok (.bipush 80, 2) := by decide +kernel
theorem dX11_loses_28 : decode cX11_loses 28 = .ok (.bipush 12, 2) := by decide +kernel
theorem dX11_loses_30 : decode cX11_loses 30 = .ok (.iload_n 1, 1) := by decide +kernel
theorem dX11_loses_31 : decode cX11_loses 31 = .ok (.imul, 1) := by decide +kernel
theorem dX11_loses_32 : decode cX11_loses 32 = .ok (.iadd, 1) := by decide +kernel
theorem dX11_loses_33 : decode cX11_loses 33 = .ok (.iload 4, 2) := by decide +kernel
theorem dX11_loses_35 : decode cX11_loses 35 = .ok (.iadd, 1) := by decide +kernel
theorem dX11_loses_36 : decode cX11_loses 36 = .ok (.aload_n 0, 1) := by decide +kernel
theorem dX11_loses_37 : decode cX11_loses 37 = .ok (.iload_n 1, 1) := by decide +kernel
theorem dX11_loses_38 : decode cX11_loses 38 = .ok (.iload 4, 2) := by decide +kernel
theorem dX11_loses_40 : decode cX11_loses 40 = .ok (.iconst 1, 1) := by decide +kernel
theorem dX11_loses_41 : decode cX11_loses 41 = .ok (.iadd, 1) := by decide +kernel
theorem dX11_loses_42 : decode cX11_loses 42 = .ok (.invokevirtual 330, 3) := by decide +kernel
theorem dX11_loses_45 : decode cX11_loses 45 = .ok (.iastore, 1) := by decide +kernel
theorem dX11_loses_46 : decode cX11_loses 46 = .ok (.iinc 4 1, 3) := by decide +kernel
theorem dX11_loses_49 : decode cX11_loses 49 = .ok (.goto (-39), 3) := by decide +kernel
theorem dX11_loses_52 : decode cX11_loses 52 = .ok (.aload_n 0, 1) := by decide +kernel
theorem dX11_loses_53 : decode cX11_loses 53 = .ok (.getfield 35, 3) := by decide +kernel
theorem dX11_loses_56 : decode cX11_loses 56 = .ok (.bipush 76, 2) := by decide +kernel
theorem dX11_loses_58 : decode cX11_loses 58 = .ok (.iload_n 1, 1) := by decide +kernel
theorem dX11_loses_59 : decode cX11_loses 59 = .ok (.iadd, 1) := by decide +kernel
theorem dX11_loses_60 : decode cX11_loses 60 = .ok (.dup2, 1) := by decide +kernel
theorem dX11_loses_61 : decode cX11_loses 61 = .ok (.iaload, 1) := by decide +kernel
theorem dX11_loses_62 : decode cX11_loses 62 = .ok (.iconst 1, 1) := by decide +kernel
theorem dX11_loses_63 : decode cX11_loses 63 = .ok (.isub, 1) := by decide +kernel
theorem dX11_loses_64 : decode cX11_loses 64 = .ok (.iastore, 1) := by decide +kernel
theorem dX11_loses_65 : decode cX11_loses 65 = .ok (.iload_n 3, 1) := by decide +kernel
theorem dX11_loses_66 : decode cX11_loses 66 = .ok (.ireturn, 1) := by decide +kernel
theorem dX11_lose_0 : decode cX11_lose 0 = .ok (.aload_n 0, 1) := by decide +kernel
theorem dX11_lose_1 : decode cX11_lose 1 = .ok (.iconst 0, 1) := by decide +kernel
theorem dX11_lose_2 : decode cX11_lose 2 = .ok (.putfield 94, 3) := by decide +kernel
theorem dX11_lose_5 : decode cX11_lose 5 = .ok (.aload_n 0, 1) := by decide +kernel
theorem dX11_lose_6 : decode cX11_lose 6 = .ok (.iconst 0, 1) := by decide +kernel
theorem dX11_lose_7 : decode cX11_lose 7 = .ok (.putfield 97, 3) := by decide +kernel
theorem dX11_lose_10 : decode cX11_lose 10 = .ok (.aload_n 0, 1) := by decide +kernel
theorem dX11_lose_11 : decode cX11_lose 11 = .ok (.iload_n 1, 1) := by decide +kernel
theorem dX11_lose_12 : decode cX11_lose 12 = .ok (.invokevirtual 342, 3) := by decide +kernel
theorem dX11_lose_15 : decode cX11_lose 15 = .ok (.ifCond .ne 9, 3) := by decide +kernel
theorem dX11_lose_18 : decode cX11_lose 18 = .ok (.aload_n 0, 1) := by decide +kernel
theorem dX11_lose_19 : decode cX11_lose 19 = .ok (.iconst 2, 1) := by decide +kernel
theorem dX11_lose_20 : decode cX11_lose 20 = .ok (.invokevirtual 336, 3) := by decide +kernel
theorem dX11_lose_23 : decode cX11_lose 23 = .ok (.ireturn, 1) := by decide +kernel
theorem dX11_lose_24 : decode cX11_lose 24 = .ok (.iload_n 2, 1) := by decide +kernel
theorem dX11_lose_25 : decode cX11_lose 25 = .ok (.i2l, 1) := by decide +kernel
theorem dX11_lose_26 : decode cX11_lose 26 = .ok (.lconst 0, 1) := by decide +kernel
theorem dX11_lose_27 : decode cX11_lose 27 = .ok (.aload_n 0, 1) := by decide +kernel
theorem dX11_lose_28 : decode cX11_lose 28 = .ok (.iload_n 1, 1) := by decide +kernel
theorem dX11_lose_29 : decode cX11_lose 29 = .ok (.invokevirtual 333, 3) := by decide +kernel
theorem dX11_lose_32 : decode cX11_lose 32 = .ok (.iconst 1, 1) := by decide +kernel
theorem dX11_lose_33 : decode cX11_lose 33 = .ok (.isub, 1) := by decide +kernel
theorem dX11_lose_34 : decode cX11_lose 34 = .ok (.i2l, 1) := by decide +kernel
theorem dX11_lose_35 : decode cX11_lose 35 = .ok (.invokestatic 129, 3) := by decide +kernel
theorem dX11_lose_38 : decode cX11_lose 38 = .ok (.ifCond .eq 12, 3) := by decide +kernel
theorem dX11_lose_41 : decode cX11_lose 41 = .ok (.aload_n 0, 1) := by decide +kernel
theorem dX11_lose_42 : decode cX11_lose 42 = .ok (.iload_n 1, 1) := by decide +kernel
theorem dX11_lose_43 : decode cX11_lose 43 = .ok (.iload_n 2, 1) := by decide +kernel
theorem dX11_lose_44 : decode cX11_lose 44 = .ok (.invokevirtual 366, 3) := by decide +kernel
theorem dX11_lose_47 : decode cX11_lose 47 = .ok (.goto 9, 3) := by decide +kernel
theorem dX11_lose_50 : decode cX11_lose 50 = .ok (.aload_n 0, 1) := by decide +kernel
theorem dX11_lose_51 : decode cX11_lose 51 = .ok (.bipush 8, 2) := by decide +kernel
theorem dX11_lose_53 : decode cX11_lose 53 = .ok (.invokevirtual 336, 3) := by decide +kernel
theorem dX11_lose_56 : decode cX11_lose 56 = .ok (.ireturn, 1) := by decide +kernel
theorem dX11_rest_0 : decode cX11_rest 0 = .ok (.aload_n 0, 1) := by decide +kernel
theorem dX11_rest_1 : decode cX11_rest 1 = .ok (.iconst 0, 1) := by decide +kernel
theorem dX11_rest_2 : decode cX11_rest 2 = .ok (.putfield 94, 3) := by decide +kernel
theorem dX11_rest_5 : decode cX11_rest 5 = .ok (.aload_n 0, 1) := by decide +kernel
theorem dX11_rest_6 : decode cX11_rest 6 = .ok (.iconst 0, 1) := by decide +kernel
theorem dX11_rest_7 : decode cX11_rest 7 = .ok (.putfield 97, 3) := by decide +kernel
theorem dX11_rest_10 : decode cX11_rest 10 = .ok (.aload_n 0, 1) := by decide +kernel
theorem dX11_rest_11 : decode cX11_rest 11 = .ok (.iload_n 1, 1) := by decide +kernel
theorem dX11_rest_12 : decode cX11_rest 12 = .ok (.invokevirtual 342, 3) := by decide +kernel
theorem dX11_rest_15 : decode cX11_rest 15 = .ok (.ifCond .ne 9, 3) := by decide +kernel
theorem dX11_rest_18 : decode cX11_rest 18 = .ok (.aload_n 0, 1) := by decide +kernel
theorem dX11_rest_19 : decode cX11_rest 19 = .ok (.iconst 2, 1) := by decide +kernel
theorem dX11_rest_20 : decode cX11_rest 20 = .ok (.invokevirtual 336, 3) := by decide +kernel
theorem dX11_rest_23 : decode cX11_rest 23 = .ok (.ireturn, 1) := by decide +kernel
theorem dX11_rest_24 : decode cX11_rest 24 = .ok (.iload_n 2, 1) := by decide +kernel
theorem dX11_rest_25 : decode cX11_rest 25 = .ok (.i2l, 1) := by decide +kernel
theorem dX11_rest_26 : decode cX11_rest 26 = .ok (.lconst 1, 1) := by decide +kernel
theorem dX11_rest_27 : decode cX11_rest 27 = .ok (.ldc2_w 369, 3) := by decide +kernel
theorem dX11_rest_30 : decode cX11_rest 30 = .ok (.invokestatic 129, 3) := by decide +kernel
theorem dX11_rest_33 : decode cX11_rest 33 = .ok (.ifCond .ne 9, 3) := by decide +kernel
theorem dX11_rest_36 : decode cX11_rest 36 = .ok (.aload_n 0, 1) := by decide +kernel
theorem dX11_rest_37 : decode cX11_rest 37 = .ok (.iconst 5, 1) := by decide +kernel
theorem dX11_rest_38 : decode cX11_rest 38 = .ok (.invokevirtual 336, 3) := by decide +kernel
theorem dX11_rest_41 : decode cX11_rest 41 = .ok (.ireturn, 1) := by decide +kernel
theorem dX11_rest_42 : decode cX11_rest 42 = .ok (.aload_n 0, 1) := by decide +kernel
theorem dX11_rest_43 : decode cX11_rest 43 = .ok (.getfield 35, 3) := by decide +kernel
theorem dX11_rest_46 : decode cX11_rest 46 = .ok (.bipush 72, 2) := by decide +kernel
theorem dX11_rest_48 : decode cX11_rest 48 = .ok (.iload_n 1, 1) := by decide +kernel
theorem dX11_rest_49 : decode cX11_rest 49 = .ok (.iadd, 1) := by decide +kernel
theorem dX11_rest_50 : decode cX11_rest 50 = .ok (.dup2, 1) := by decide +kernel
theorem dX11_rest_51 : decode cX11_rest 51 = .ok (.iaload, 1) := by decide +kernel
theorem dX11_rest_52 : decode cX11_rest 52 = .ok (.iload_n 2, 1) := by decide +kernel
theorem dX11_rest_53 : decode cX11_rest 53 = .ok (.iadd, 1) := by decide +kernel
theorem dX11_rest_54 : decode cX11_rest 54 = .ok (.iastore, 1) := by decide +kernel
theorem dX11_rest_55 : decode cX11_rest 55 = .ok (.aload_n 0, 1) := by decide +kernel
theorem dX11_rest_56 : decode cX11_rest 56 = .ok (.getfield 35, 3) := by decide +kernel
theorem dX11_rest_59 : decode cX11_rest 59 = .ok (.bipush 72, 2) := by decide +kernel
theorem dX11_rest_61 : decode cX11_rest 61 = .ok (.iload_n 1, 1) := by decide +kernel
theorem dX11_rest_62 : decode cX11_rest 62 = .ok (.iadd, 1) := by decide +kernel
theorem dX11_rest_63 : decode cX11_rest 63 = .ok (.iaload, 1) := by decide +kernel
theorem dX11_rest_64 : decode cX11_rest 64 = .ok (.ireturn, 1) := by decide +kernel
theorem dX11_pays_0 : decode cX11_pays 0 = .ok (.aload_n 0, 1) := by decide +kernel
theorem dX11_pays_1 : decode cX11_pays 1 = .ok (.getfield 35, 3) := by decide +kernel
theorem dX11_pays_4 : decode cX11_pays 4 = .ok (.bipush 68, 2) := by decide +kernel
theorem dX11_pays_6 : decode cX11_pays 6 = .ok (.iload_n 1, 1) := by decide +kernel
theorem dX11_pays_7 : decode cX11_pays 7 = .ok (.iadd, 1) := by decide +kernel
theorem dX11_pays_8 : decode cX11_pays 8 = .ok (.iaload, 1) := by decide +kernel
theorem dX11_pays_9 : decode cX11_pays 9 = .ok (.iload_n 2, 1) := by decide +kernel
theorem dX11_pays_10 : decode cX11_pays 10 = .ok (.iadd, 1) := by decide +kernel
theorem dX11_pays_11 : decode cX11_pays 11 = .ok (.sipush 9999, 3) := by decide +kernel
theorem dX11_pays_14 : decode cX11_pays 14 = .ok (.if_icmp .le 5, 3) := by decide +kernel
theorem dX11_pays_17 : decode cX11_pays 17 = .ok (.iconst 0, 1) := by decide +kernel
theorem dX11_pays_18 : decode cX11_pays 18 = .ok (.ireturn, 1) := by decide +kernel
theorem dX11_pays_19 : decode cX11_pays 19 = .ok (.aload_n 0, 1) := by decide +kernel
theorem dX11_pays_20 : decode cX11_pays 20 = .ok (.getfield 35, 3) := by decide +kernel
theorem dX11_pays_23 : decode cX11_pays 23 = .ok (.bipush 68, 2) := by decide +kernel
theorem dX11_pays_25 : decode cX11_pays 25 = .ok (.iload_n 1, 1) := by decide +kernel
theorem dX11_pays_26 : decode cX11_pays 26 = .ok (.iadd, 1) := by decide +kernel
theorem dX11_pays_27 : decode cX11_pays 27 = .ok (.dup2, 1) := by decide +kernel
theorem dX11_pays_28 : decode cX11_pays 28 = .ok (.iaload, 1) := by decide +kernel
theorem dX11_pays_29 : decode cX11_pays 29 = .ok (.iload_n 2, 1) := by decide +kernel
theorem dX11_pays_30 : decode cX11_pays 30 = .ok (.iadd, 1) := by decide +kernel
theorem dX11_pays_31 : decode cX11_pays 31 = .ok (.iastore, 1) := by decide +kernel
theorem dX11_pays_32 : decode cX11_pays 32 = .ok (.iconst 1, 1) := by decide +kernel
theorem dX11_pays_33 : decode cX11_pays 33 = .ok (.ireturn, 1) := by decide +kernel
theorem dX11_pay_0 : decode cX11_pay 0 = .ok (.aload_n 0, 1) := by decide +kernel
theorem dX11_pay_1 : decode cX11_pay 1 = .ok (.iconst 0, 1) := by decide +kernel
theorem dX11_pay_2 : decode cX11_pay 2 = .ok (.putfield 94, 3) := by decide +kernel
theorem dX11_pay_5 : decode cX11_pay 5 = .ok (.aload_n 0, 1) := by decide +kernel
theorem dX11_pay_6 : decode cX11_pay 6 = .ok (.iconst 0, 1) := by decide +kernel
theorem dX11_pay_7 : decode cX11_pay 7 = .ok (.putfield 97, 3) := by decide +kernel
theorem dX11_pay_10 : decode cX11_pay 10 = .ok (.aload_n 0, 1) := by decide +kernel
theorem dX11_pay_11 : decode cX11_pay 11 = .ok (.iload_n 1, 1) := by decide +kernel
theorem dX11_pay_12 : decode cX11_pay 12 = .ok (.invokevirtual 342, 3) := by decide +kernel
theorem dX11_pay_15 : decode cX11_pay 15 = .ok (.ifCond .ne 9, 3) := by decide +kernel
theorem dX11_pay_18 : decode cX11_pay 18 = .ok (.aload_n 0, 1) := by decide +kernel
theorem dX11_pay_19 : decode cX11_pay 19 = .ok (.iconst 2, 1) := by decide +kernel
theorem dX11_pay_20 : decode cX11_pay 20 = .ok (.invokevirtual 336, 3) := by decide +kernel
theorem dX11_pay_23 : decode cX11_pay 23 = .ok (.ireturn, 1) := by decide +kernel
theorem dX11_pay_24 : decode cX11_pay 24 = .ok (.iload_n 2, 1) := by decide +kernel
theorem dX11_pay_25 : decode cX11_pay 25 = .ok (.i2l, 1) := by decide +kernel
theorem dX11_pay_26 : decode cX11_pay 26 = .ok (.lconst 1, 1) := by decide +kernel
theorem dX11_pay_27 : decode cX11_pay 27 = .ok (.ldc2_w 369, 3) := by decide +kernel
theorem dX11_pay_30 : decode cX11_pay 30 = .ok (.invokestatic 129, 3) := by decide +kernel
theorem dX11_pay_33 : decode cX11_pay 33 = .ok (.ifCond .ne 9, 3) := by decide +kernel
theorem dX11_pay_36 : decode cX11_pay 36 = .ok (.aload_n 0, 1) := by decide +kernel
theorem dX11_pay_37 : decode cX11_pay 37 = .ok (.iconst 5, 1) := by decide +kernel
theorem dX11_pay_38 : decode cX11_pay 38 = .ok (.invokevirtual 336, 3) := by decide +kernel
theorem dX11_pay_41 : decode cX11_pay 41 = .ok (.ireturn, 1) := by decide +kernel
theorem dX11_pay_42 : decode cX11_pay 42 = .ok (.aload_n 0, 1) := by decide +kernel
theorem dX11_pay_43 : decode cX11_pay 43 = .ok (.iload_n 1, 1) := by decide +kernel
theorem dX11_pay_44 : decode cX11_pay 44 = .ok (.iload_n 2, 1) := by decide +kernel
theorem dX11_pay_45 : decode cX11_pay 45 = .ok (.invokevirtual 371, 3) := by decide +kernel
theorem dX11_pay_48 : decode cX11_pay 48 = .ok (.ifCond .eq 15, 3) := by decide +kernel
theorem dX11_pay_51 : decode cX11_pay 51 = .ok (.aload_n 0, 1) := by decide +kernel
theorem dX11_pay_52 : decode cX11_pay 52 = .ok (.getfield 35, 3) := by decide +kernel
theorem dX11_pay_55 : decode cX11_pay 55 = .ok (.bipush 68, 2) := by decide +kernel
theorem dX11_pay_57 : decode cX11_pay 57 = .ok (.iload_n 1, 1) := by decide +kernel
theorem dX11_pay_58 : decode cX11_pay 58 = .ok (.iadd, 1) := by decide +kernel
theorem dX11_pay_59 : decode cX11_pay 59 = .ok (.iaload, 1) := by decide +kernel
theorem dX11_pay_60 : decode cX11_pay 60 = .ok (.goto 9, 3) := by decide +kernel
theorem dX11_pay_63 : decode cX11_pay 63 = .ok (.aload_n 0, 1) := by decide +kernel
theorem dX11_pay_64 : decode cX11_pay 64 = .ok (.bipush 7, 2) := by decide +kernel
theorem dX11_pay_66 : decode cX11_pay 66 = .ok (.invokevirtual 336, 3) := by decide +kernel
theorem dX11_pay_69 : decode cX11_pay 69 = .ok (.ireturn, 1) := by decide +kernel
theorem dX11_openSet_0 : decode cX11_openSet 0 = .ok (.iconst 0, 1) := by decide +kernel
theorem dX11_openSet_1 : decode cX11_openSet 1 = .ok (.istore_n 2, 1) := by decide +kernel
theorem dX11_openSet_2 : decode cX11_openSet 2 = .ok (.iconst 0, 1) := by decide +kernel
theorem dX11_openSet_3 : decode cX11_openSet 3 = .ok (.istore_n 3, 1) := by decide +kernel
theorem dX11_openSet_4 : decode cX11_openSet 4 = .ok (.iload_n 3, 1) := by decide +kernel
theorem dX11_openSet_5 : decode cX11_openSet 5 = .ok (.aload_n 0, 1) := by decide +kernel
theorem dX11_openSet_6 : decode cX11_openSet 6 = .ok (.getfield 35, 3) := by decide +kernel
theorem dX11_openSet_9 : decode cX11_openSet 9 = .ok (.iconst 1, 1) := by decide +kernel
theorem dX11_openSet_10 : decode cX11_openSet 10 = .ok (.iaload, 1) := by decide +kernel
theorem dX11_openSet_11 : decode cX11_openSet 11 = .ok (.if_icmp .ge 28, 3) := by decide +kernel
theorem dX11_openSet_14 : decode cX11_openSet 14 = .ok (.iload_n 2, 1) := by decide +kernel
theorem dX11_openSet_15 : decode cX11_openSet 15 = .ok (.aload_n 0, 1) := by decide +kernel
theorem dX11_openSet_16 : decode cX11_openSet 16 = .ok (.iload_n 1, 1) := by decide +kernel
theorem dX11_openSet_17 : decode cX11_openSet 17 = .ok (.iload_n 3, 1) := by decide +kernel
theorem dX11_openSet_18 : decode cX11_openSet 18 = .ok (.invokevirtual 354, 3) := by decide +kernel
theorem dX11_openSet_21 : decode cX11_openSet 21 = .ok (.ifCond .eq 9, 3) := by decide +kernel
theorem dX11_openSet_24 : decode cX11_openSet 24 = .ok (.iconst 1, 1) := by decide +kernel
theorem dX11_openSet_25 : decode cX11_openSet 25 = .ok (.iload_n 3, 1) := by decide +kernel
theorem dX11_openSet_26 : decode cX11_openSet 26 = .ok (.ishl, 1) := by decide +kernel
theorem dX11_openSet_27 : decode cX11_openSet 27 = .ok (.goto 4, 3) := by decide +kernel
theorem dX11_openSet_30 : decode cX11_openSet 30 = .ok (.iconst 0, 1) := by decide +kernel
theorem dX11_openSet_31 : decode cX11_openSet 31 = .ok (.ior, 1) := by decide +kernel
theorem dX11_openSet_32 : decode cX11_openSet 32 = .ok (.istore_n 2, 1) := by decide +kernel
theorem dX11_openSet_33 : decode cX11_openSet 33 = .ok (.iinc 3 1, 3) := by decide +kernel
theorem dX11_openSet_36 : decode cX11_openSet 36 = .ok (.goto (-32), 3) := by decide +kernel
theorem dX11_openSet_39 : decode cX11_openSet 39 = .ok (.iload_n 2, 1) := by decide +kernel
theorem dX11_openSet_40 : decode cX11_openSet 40 = .ok (.ireturn, 1) := by decide +kernel
theorem dX11_readyOf_0 : decode cX11_readyOf 0 = .ok (.aload_n 0, 1) := by decide +kernel
theorem dX11_readyOf_1 : decode cX11_readyOf 1 = .ok (.aload_n 0, 1) := by decide +kernel
theorem dX11_readyOf_2 : decode cX11_readyOf 2 = .ok (.iload_n 1, 1) := by decide +kernel
theorem dX11_readyOf_3 : decode cX11_readyOf 3 = .ok (.invokevirtual 345, 3) := by decide +kernel
theorem dX11_readyOf_6 : decode cX11_readyOf 6 = .ok (.invokevirtual 374, 3) := by decide +kernel
theorem dX11_readyOf_9 : decode cX11_readyOf 9 = .ok (.istore_n 3, 1) := by decide +kernel
theorem dX11_readyOf_10 : decode cX11_readyOf 10 = .ok (.iconst 0, 1) := by decide +kernel
theorem dX11_readyOf_11 : decode cX11_readyOf 11 = .ok (.istore 4, 2) := by decide +kernel
theorem dX11_readyOf_13 : decode cX11_readyOf 13 = .ok (.iload 4, 2) := by decide +kernel
theorem dX11_readyOf_15 : decode cX11_readyOf 15 = .ok (.aload_n 0, 1) := by decide +kernel
theorem dX11_readyOf_16 : decode cX11_readyOf 16 = .ok (.getfield 35, 3) := by decide +kernel
theorem dX11_readyOf_19 : decode cX11_readyOf 19 = .ok (.iconst 1, 1) := by decide +kernel
theorem dX11_readyOf_20 : decode cX11_readyOf 20 = .ok (.iaload, 1) := by decide +kernel
theorem dX11_readyOf_21 : decode cX11_readyOf 21 = .ok (.if_icmp .ge 44, 3) := by decide +kernel
theorem dX11_readyOf_24 : decode cX11_readyOf 24 = .ok (.iload_n 2, 1) := by decide +kernel
theorem dX11_readyOf_25 : decode cX11_readyOf 25 = .ok (.ifCond .eq 34, 3) := by decide +kernel
theorem dX11_readyOf_28 : decode cX11_readyOf 28 = .ok (.aload_n 0, 1) := by decide +kernel
theorem dX11_readyOf_29 : decode cX11_readyOf 29 = .ok (.getfield 35, 3) := by decide +kernel
theorem dX11_readyOf_32 : decode cX11_readyOf 32 = .ok (.bipush 68, 2) := by decide +kernel
theorem dX11_readyOf_34 : decode cX11_readyOf 34 = .ok (.iload_n 1, 1) := by decide +kernel
theorem dX11_readyOf_35 : decode cX11_readyOf 35 = .ok (.iadd, 1) := by decide +kernel
theorem dX11_readyOf_36 : decode cX11_readyOf 36 = .ok (.iaload, 1) := by decide +kernel
theorem dX11_readyOf_37 : decode cX11_readyOf 37 = .ok (.aload_n 0, 1) := by decide +kernel
theorem dX11_readyOf_38 : decode cX11_readyOf 38 = .ok (.getfield 35, 3) := by decide +kernel
theorem dX11_readyOf_41 : decode cX11_readyOf 41 = .ok (.bipush 28, 2) := by decide +kernel
theorem dX11_readyOf_43 : decode cX11_readyOf 43 = .ok (.iload 4, 2) := by decide +kernel
theorem dX11_readyOf_45 : decode cX11_readyOf 45 = .ok (.iadd, 1) := by decide +kernel
theorem dX11_readyOf_46 : decode cX11_readyOf 46 = .ok (.iaload, 1) := by decide +kernel
theorem dX11_readyOf_47 : decode cX11_readyOf 47 = .ok (.if_icmp .ge 12, 3) := by decide +kernel
theorem dX11_readyOf_50 : decode cX11_readyOf 50 = .ok (.iload_n 3, 1) := by decide +kernel
theorem dX11_readyOf_51 : decode cX11_readyOf 51 = .ok (.iconst 1, 1) := by decide +kernel
theorem dX11_readyOf_52 : decode cX11_readyOf 52 = .ok (.iload 4, 2) := by decide +kernel
theorem dX11_readyOf_54 : decode cX11_readyOf 54 = .ok (.ishl, 1) := by decide +kernel
theorem dX11_readyOf_55 : decode cX11_readyOf 55 = .ok (.iconst (-1), 1) := by decide +kernel
theorem dX11_readyOf_56 : decode cX11_readyOf 56 = .ok (.ixor, 1) := by decide +kernel
theorem dX11_readyOf_57 : decode cX11_readyOf 57 = .ok (.iand, 1) := by decide +kernel
theorem dX11_readyOf_58 : decode cX11_readyOf 58 = .ok (.istore_n 3, 1) := by decide +kernel
theorem dX11_readyOf_59 : decode cX11_readyOf 59 = .ok (.iinc 4 1, 3) := by decide +kernel
theorem dX11_readyOf_62 : decode cX11_readyOf 62 = .ok (.goto (-49), 3) := by decide +kernel
theorem dX11_readyOf_65 : decode cX11_readyOf 65 = .ok (.iload_n 3, 1) := by decide +kernel
theorem dX11_readyOf_66 : decode cX11_readyOf 66 = .ok (.ireturn, 1) := by decide +kernel
theorem dX11_sizeOf_0 : decode cX11_sizeOf 0 = .ok (.iconst 0, 1) := by decide +kernel
theorem dX11_sizeOf_1 : decode cX11_sizeOf 1 = .ok (.istore_n 1, 1) := by decide +kernel
theorem dX11_sizeOf_2 : decode cX11_sizeOf 2 = .ok (.iconst 0, 1) := by decide +kernel
theorem dX11_sizeOf_3 : decode cX11_sizeOf 3 = .ok (.istore_n 2, 1) := by decide +kernel
theorem dX11_sizeOf_4 : decode cX11_sizeOf 4 = .ok (.iload_n 2, 1) := by decide +kernel
theorem dX11_sizeOf_5 : decode cX11_sizeOf 5 = .ok (.bipush 12, 2) := by decide +kernel
theorem dX11_sizeOf_7 : decode cX11_sizeOf 7 = .ok (.if_icmp .ge 25, 3) := by decide +kernel
theorem dX11_sizeOf_10 : decode cX11_sizeOf 10 = .ok (.iload_n 1, 1) := by decide +kernel
theorem dX11_sizeOf_11 : decode cX11_sizeOf 11 = .ok (.iload_n 0, 1) := by decide +kernel
theorem dX11_sizeOf_12 : decode cX11_sizeOf 12 = .ok (.iload_n 2, 1) := by decide +kernel
theorem dX11_sizeOf_13 : decode cX11_sizeOf 13 = .ok (.invokestatic 277, 3) := by decide +kernel
theorem dX11_sizeOf_16 : decode cX11_sizeOf 16 = .ok (.ifCond .eq 7, 3) := by decide +kernel
theorem dX11_sizeOf_19 : decode cX11_sizeOf 19 = .ok (.iconst 1, 1) := by decide +kernel
theorem dX11_sizeOf_20 : decode cX11_sizeOf 20 = .ok (.goto 4, 3) := by decide +kernel
theorem dX11_sizeOf_23 : decode cX11_sizeOf 23 = .ok (.iconst 0, 1) := by decide +kernel
theorem dX11_sizeOf_24 : decode cX11_sizeOf 24 = .ok (.iadd, 1) := by decide +kernel
theorem dX11_sizeOf_25 : decode cX11_sizeOf 25 = .ok (.istore_n 1, 1) := by decide +kernel
theorem dX11_sizeOf_26 : decode cX11_sizeOf 26 = .ok (.iinc 2 1, 3) := by decide +kernel
theorem dX11_sizeOf_29 : decode cX11_sizeOf 29 = .ok (.goto (-25), 3) := by decide +kernel
theorem dX11_sizeOf_32 : decode cX11_sizeOf 32 = .ok (.iload_n 1, 1) := by decide +kernel
theorem dX11_sizeOf_33 : decode cX11_sizeOf 33 = .ok (.ireturn, 1) := by decide +kernel
theorem dX11_ready_0 : decode cX11_ready 0 = .ok (.aload_n 0, 1) := by decide +kernel
theorem dX11_ready_1 : decode cX11_ready 1 = .ok (.iconst 0, 1) := by decide +kernel
theorem dX11_ready_2 : decode cX11_ready 2 = .ok (.putfield 94, 3) := by decide +kernel
theorem dX11_ready_5 : decode cX11_ready 5 = .ok (.aload_n 0, 1) := by decide +kernel
theorem dX11_ready_6 : decode cX11_ready 6 = .ok (.iconst 0, 1) := by decide +kernel
theorem dX11_ready_7 : decode cX11_ready 7 = .ok (.putfield 97, 3) := by decide +kernel
theorem dX11_ready_10 : decode cX11_ready 10 = .ok (.aload_n 0, 1) := by decide +kernel
theorem dX11_ready_11 : decode cX11_ready 11 = .ok (.iload_n 1, 1) := by decide +kernel
theorem dX11_ready_12 : decode cX11_ready 12 = .ok (.invokevirtual 342, 3) := by decide +kernel
theorem dX11_ready_15 : decode cX11_ready 15 = .ok (.ifCond .ne 9, 3) := by decide +kernel
theorem dX11_ready_18 : decode cX11_ready 18 = .ok (.aload_n 0, 1) := by decide +kernel
theorem dX11_ready_19 : decode cX11_ready 19 = .ok (.iconst 2, 1) := by decide +kernel
theorem dX11_ready_20 : decode cX11_ready 20 = .ok (.invokevirtual 336, 3) := by decide +kernel
theorem dX11_ready_23 : decode cX11_ready 23 = .ok (.ireturn, 1) := by decide +kernel
theorem dX11_ready_24 : decode cX11_ready 24 = .ok (.iload_n 2, 1) := by decide +kernel
theorem dX11_ready_25 : decode cX11_ready 25 = .ok (.i2l, 1) := by decide +kernel
theorem dX11_ready_26 : decode cX11_ready 26 = .ok (.lconst 0, 1) := by decide +kernel
theorem dX11_ready_27 : decode cX11_ready 27 = .ok (.lconst 1, 1) := by decide +kernel
theorem dX11_ready_28 : decode cX11_ready 28 = .ok (.invokestatic 129, 3) := by decide +kernel
theorem dX11_ready_31 : decode cX11_ready 31 = .ok (.ifCond .eq 21, 3) := by decide +kernel
theorem dX11_ready_34 : decode cX11_ready 34 = .ok (.aload_n 0, 1) := by decide +kernel
theorem dX11_ready_35 : decode cX11_ready 35 = .ok (.iload_n 1, 1) := by decide +kernel
theorem dX11_ready_36 : decode cX11_ready 36 = .ok (.iload_n 2, 1) := by decide +kernel
theorem dX11_ready_37 : decode cX11_ready 37 = .ok (.iconst 1, 1) := by decide +kernel
theorem dX11_ready_38 : decode cX11_ready 38 = .ok (.if_icmp .ne 7, 3) := by decide +kernel
theorem dX11_ready_41 : decode cX11_ready 41 = .ok (.iconst 1, 1) := by decide +kernel
theorem dX11_ready_42 : decode cX11_ready 42 = .ok (.goto 4, 3) := by decide +kernel
theorem dX11_ready_45 : decode cX11_ready 45 = .ok (.iconst 0, 1) := by decide +kernel
theorem dX11_ready_46 : decode cX11_ready 46 = .ok (.invokevirtual 377, 3) := by decide +kernel
theorem dX11_ready_49 : decode cX11_ready 49 = .ok (.goto 8, 3) := by decide +kernel
theorem dX11_ready_52 : decode cX11_ready 52 = .ok (.aload_n 0, 1) := by decide +kernel
theorem dX11_ready_53 : decode cX11_ready 53 = .ok (.iconst 5, 1) := by decide +kernel
theorem dX11_ready_54 : decode cX11_ready 54 = .ok (.invokevirtual 336, 3) := by decide +kernel
theorem dX11_ready_57 : decode cX11_ready 57 = .ok (.ireturn, 1) := by decide +kernel
theorem dX11_takes_0 : decode cX11_takes 0 = .ok (.aload_n 0, 1) := by decide +kernel
theorem dX11_takes_1 : decode cX11_takes 1 = .ok (.iconst 0, 1) := by decide +kernel
theorem dX11_takes_2 : decode cX11_takes 2 = .ok (.putfield 94, 3) := by decide +kernel
theorem dX11_takes_5 : decode cX11_takes 5 = .ok (.aload_n 0, 1) := by decide +kernel
theorem dX11_takes_6 : decode cX11_takes 6 = .ok (.iconst 0, 1) := by decide +kernel
theorem dX11_takes_7 : decode cX11_takes 7 = .ok (.putfield 97, 3) := by decide +kernel
theorem dX11_takes_10 : decode cX11_takes 10 = .ok (.aload_n 0, 1) := by decide +kernel
theorem dX11_takes_11 : decode cX11_takes 11 = .ok (.iload_n 1, 1) := by decide +kernel
theorem dX11_takes_12 : decode cX11_takes 12 = .ok (.invokevirtual 342, 3) := by decide +kernel
theorem dX11_takes_15 : decode cX11_takes 15 = .ok (.ifCond .eq 20, 3) := by decide +kernel
theorem dX11_takes_18 : decode cX11_takes 18 = .ok (.aload_n 0, 1) := by decide +kernel
theorem dX11_takes_19 : decode cX11_takes 19 = .ok (.iload_n 2, 1) := by decide +kernel
theorem dX11_takes_20 : decode cX11_takes 20 = .ok (.invokevirtual 339, 3) := by decide +kernel
theorem dX11_takes_23 : decode cX11_takes 23 = .ok (.ifCond .eq 12, 3) := by decide +kernel
theorem dX11_takes_26 : decode cX11_takes 26 = .ok (.aload_n 0, 1) := by decide +kernel
theorem dX11_takes_27 : decode cX11_takes 27 = .ok (.iload_n 1, 1) := by decide +kernel
theorem dX11_takes_28 : decode cX11_takes 28 = .ok (.iload_n 2, 1) := by decide +kernel
theorem dX11_takes_29 : decode cX11_takes 29 = .ok (.invokevirtual 357, 3) := by decide +kernel
theorem dX11_takes_32 : decode cX11_takes 32 = .ok (.goto 8, 3) := by decide +kernel
theorem dX11_takes_35 : decode cX11_takes 35 = .ok (.aload_n 0, 1) := by decide +kernel
theorem dX11_takes_36 : decode cX11_takes 36 = .ok (.iconst 2, 1) := by decide +kernel
theorem dX11_takes_37 : decode cX11_takes 37 = .ok (.invokevirtual 336, 3) := by decide +kernel
theorem dX11_takes_40 : decode cX11_takes 40 = .ok (.ireturn, 1) := by decide +kernel
theorem dX11_opens_0 : decode cX11_opens 0 = .ok (.aload_n 0, 1) := by decide +kernel
theorem dX11_opens_1 : decode cX11_opens 1 = .ok (.iconst 0, 1) := by decide +kernel
theorem dX11_opens_2 : decode cX11_opens 2 = .ok (.putfield 94, 3) := by decide +kernel
theorem dX11_opens_5 : decode cX11_opens 5 = .ok (.aload_n 0, 1) := by decide +kernel
theorem dX11_opens_6 : decode cX11_opens 6 = .ok (.iconst 0, 1) := by decide +kernel
theorem dX11_opens_7 : decode cX11_opens 7 = .ok (.putfield 97, 3) := by decide +kernel
theorem dX11_opens_10 : decode cX11_opens 10 = .ok (.aload_n 0, 1) := by decide +kernel
theorem dX11_opens_11 : decode cX11_opens 11 = .ok (.iload_n 1, 1) := by decide +kernel
theorem dX11_opens_12 : decode cX11_opens 12 = .ok (.invokevirtual 342, 3) := by decide +kernel
theorem dX11_opens_15 : decode cX11_opens 15 = .ok (.ifCond .eq 11, 3) := by decide +kernel
theorem dX11_opens_18 : decode cX11_opens 18 = .ok (.aload_n 0, 1) := by decide +kernel
theorem dX11_opens_19 : decode cX11_opens 19 = .ok (.iload_n 2, 1) := by decide +kernel
theorem dX11_opens_20 : decode cX11_opens 20 = .ok (.invokevirtual 339, 3) := by decide +kernel
theorem dX11_opens_23 : decode cX11_opens 23 = .ok (.ifCond .ne 9, 3) := by decide +kernel
theorem dX11_opens_26 : decode cX11_opens 26 = .ok (.aload_n 0, 1) := by decide +kernel
theorem dX11_opens_27 : decode cX11_opens 27 = .ok (.iconst 2, 1) := by decide +kernel
theorem dX11_opens_28 : decode cX11_opens 28 = .ok (.invokevirtual 336, 3) := by decide +kernel
theorem dX11_opens_31 : decode cX11_opens 31 = .ok (.ireturn, 1) := by decide +kernel
theorem dX11_opens_32 : decode cX11_opens 32 = .ok (.aload_n 0, 1) := by decide +kernel
theorem dX11_opens_33 : decode cX11_opens 33 = .ok (.iload_n 1, 1) := by decide +kernel
theorem dX11_opens_34 : decode cX11_opens 34 = .ok (.invokevirtual 345, 3) := by decide +kernel
theorem dX11_opens_37 : decode cX11_opens 37 = .ok (.istore_n 3, 1) := by decide +kernel
theorem dX11_opens_38 : decode cX11_opens 38 = .ok (.iload_n 3, 1) := by decide +kernel
theorem dX11_opens_39 : decode cX11_opens 39 = .ok (.iload_n 2, 1) := by decide +kernel
theorem dX11_opens_40 : decode cX11_opens 40 = .ok (.invokestatic 277, 3) := by decide +kernel
theorem dX11_opens_43 : decode cX11_opens 43 = .ok (.ifCond .eq 10, 3) := by decide +kernel
theorem dX11_opens_46 : decode cX11_opens 46 = .ok (.aload_n 0, 1) := by decide +kernel
theorem dX11_opens_47 : decode cX11_opens 47 = .ok (.bipush 9, 2) := by decide +kernel
theorem dX11_opens_49 : decode cX11_opens 49 = .ok (.invokevirtual 336, 3) := by decide +kernel
theorem dX11_opens_52 : decode cX11_opens 52 = .ok (.ireturn, 1) := by decide +kernel
theorem dX11_opens_53 : decode cX11_opens 53 = .ok (.aload_n 0, 1) := by decide +kernel
theorem dX11_opens_54 : decode cX11_opens 54 = .ok (.iload_n 3, 1) := by decide +kernel
theorem dX11_opens_55 : decode cX11_opens 55 = .ok (.iconst 1, 1) := by decide +kernel
theorem dX11_opens_56 : decode cX11_opens 56 = .ok (.iload_n 2, 1) := by decide +kernel
theorem dX11_opens_57 : decode cX11_opens 57 = .ok (.ishl, 1) := by decide +kernel
theorem dX11_opens_58 : decode cX11_opens 58 = .ok (.ior, 1) := by decide +kernel
theorem dX11_opens_59 : decode cX11_opens 59 = .ok (.invokevirtual 374, 3) := by decide +kernel
theorem dX11_opens_62 : decode cX11_opens 62 = .ok (.aload_n 0, 1) := by decide +kernel
theorem dX11_opens_63 : decode cX11_opens 63 = .ok (.iload_n 3, 1) := by decide +kernel
theorem dX11_opens_64 : decode cX11_opens 64 = .ok (.invokevirtual 374, 3) := by decide +kernel
theorem dX11_opens_67 : decode cX11_opens 67 = .ok (.iconst (-1), 1) := by decide +kernel
theorem dX11_opens_68 : decode cX11_opens 68 = .ok (.ixor, 1) := by decide +kernel
theorem dX11_opens_69 : decode cX11_opens 69 = .ok (.iand, 1) := by decide +kernel
theorem dX11_opens_70 : decode cX11_opens 70 = .ok (.invokestatic 381, 3) := by decide +kernel
theorem dX11_opens_73 : decode cX11_opens 73 = .ok (.ireturn, 1) := by decide +kernel
theorem dX11_isVowel_0 : decode cX11_isVowel 0 = .ok (.iload_n 0, 1) := by decide +kernel
theorem dX11_isVowel_1 : decode cX11_isVowel 1 = .ok (.iconst 1, 1) := by decide +kernel
theorem dX11_isVowel_2 : decode cX11_isVowel 2 = .ok (.if_icmp .eq 26, 3) := by decide +kernel
theorem dX11_isVowel_5 : decode cX11_isVowel 5 = .ok (.iload_n 0, 1) := by decide +kernel
theorem dX11_isVowel_6 : decode cX11_isVowel 6 = .ok (.iconst 5, 1) := by decide +kernel
theorem dX11_isVowel_7 : decode cX11_isVowel 7 = .ok (.if_icmp .eq 21, 3) := by decide +kernel
theorem dX11_isVowel_10 : decode cX11_isVowel 10 = .ok (.iload_n 0, 1) := by decide +kernel
theorem dX11_isVowel_11 : decode cX11_isVowel 11 = .ok (.bipush 9, 2) := by decide +kernel
theorem dX11_isVowel_13 : decode cX11_isVowel 13 = .ok (.if_icmp .eq 15, 3) := by decide +kernel
theorem dX11_isVowel_16 : decode cX11_isVowel 16 = .ok (.iload_n 0, 1) := by decide +kernel
theorem dX11_isVowel_17 : decode cX11_isVowel 17 = .ok (.bipush 15, 2) := by decide +kernel
theorem dX11_isVowel_19 : decode cX11_isVowel 19 = .ok (.if_icmp .eq 9, 3) := by decide +kernel
theorem dX11_isVowel_22 : decode cX11_isVowel 22 = .ok (.iload_n 0, 1) := by decide +kernel
theorem dX11_isVowel_23 : decode cX11_isVowel 23 = .ok (.bipush 21, 2) := by decide +kernel
theorem dX11_isVowel_25 : decode cX11_isVowel 25 = .ok (.if_icmp .ne 7, 3) := by decide +kernel
theorem dX11_isVowel_28 : decode cX11_isVowel 28 = .ok (.iconst 1, 1) := by decide +kernel
theorem dX11_isVowel_29 : decode cX11_isVowel 29 = .ok (.goto 4, 3) := by decide +kernel
theorem dX11_isVowel_32 : decode cX11_isVowel 32 = .ok (.iconst 0, 1) := by decide +kernel
theorem dX11_isVowel_33 : decode cX11_isVowel 33 = .ok (.ireturn, 1) := by decide +kernel
theorem dX11_stumble_0 : decode cX11_stumble 0 = .ok (.iconst 0, 1) := by decide +kernel
theorem dX11_stumble_1 : decode cX11_stumble 1 = .ok (.istore_n 1, 1) := by decide +kernel
theorem dX11_stumble_2 : decode cX11_stumble 2 = .ok (.iconst 0, 1) := by decide +kernel
theorem dX11_stumble_3 : decode cX11_stumble 3 = .ok (.istore_n 2, 1) := by decide +kernel
theorem dX11_stumble_4 : decode cX11_stumble 4 = .ok (.iload_n 2, 1) := by decide +kernel
theorem dX11_stumble_5 : decode cX11_stumble 5 = .ok (.aload_n 0, 1) := by decide +kernel
theorem dX11_stumble_6 : decode cX11_stumble 6 = .ok (.getfield 384, 3) := by decide +kernel
theorem dX11_stumble_9 : decode cX11_stumble 9 = .ok (.if_icmp .ge 56, 3) := by decide +kernel
theorem dX11_stumble_12 : decode cX11_stumble 12 = .ok (.iload_n 2, 1) := by decide +kernel
theorem dX11_stumble_13 : decode cX11_stumble 13 = .ok (.ifCond .le 32, 3) := by decide +kernel
theorem dX11_stumble_16 : decode cX11_stumble 16 = .ok (.aload_n 0, 1) := by decide +kernel
theorem dX11_stumble_17 : decode cX11_stumble 17 = .ok (.getfield 44, 3) := by decide +kernel
theorem dX11_stumble_20 : decode cX11_stumble 20 = .ok (.iload_n 2, 1) := by decide +kernel
theorem dX11_stumble_21 : decode cX11_stumble 21 = .ok (.iaload, 1) := by decide +kernel
theorem dX11_stumble_22 : decode cX11_stumble 22 = .ok (.invokestatic 387, 3) := by decide +kernel
theorem dX11_stumble_25 : decode cX11_stumble 25 = .ok (.aload_n 0, 1) := by decide +kernel
theorem dX11_stumble_26 : decode cX11_stumble 26 = .ok (.getfield 44, 3) := by decide +kernel
theorem dX11_stumble_29 : decode cX11_stumble 29 = .ok (.iload_n 2, 1) := by decide +kernel
theorem dX11_stumble_30 : decode cX11_stumble 30 = .ok (.iconst 1, 1) := by decide +kernel
theorem dX11_stumble_31 : decode cX11_stumble 31 = .ok (.isub, 1) := by decide +kernel
theorem dX11_stumble_32 : decode cX11_stumble 32 = .ok (.iaload, 1) := by decide +kernel
theorem dX11_stumble_33 : decode cX11_stumble 33 = .ok (.invokestatic 387, 3) := by decide +kernel
theorem dX11_stumble_36 : decode cX11_stumble 36 = .ok (.if_icmp .ne 9, 3) := by decide +kernel
theorem dX11_stumble_39 : decode cX11_stumble 39 = .ok (.iload_n 1, 1) := by decide +kernel
theorem dX11_stumble_40 : decode cX11_stumble 40 = .ok (.iconst 1, 1) := by decide +kernel
theorem dX11_stumble_41 : decode cX11_stumble 41 = .ok (.iadd, 1) := by decide +kernel
theorem dX11_stumble_42 : decode cX11_stumble 42 = .ok (.goto 4, 3) := by decide +kernel
theorem dX11_stumble_45 : decode cX11_stumble 45 = .ok (.iconst 1, 1) := by decide +kernel
theorem dX11_stumble_46 : decode cX11_stumble 46 = .ok (.istore_n 1, 1) := by decide +kernel
theorem dX11_stumble_47 : decode cX11_stumble 47 = .ok (.iload_n 1, 1) := by decide +kernel
theorem dX11_stumble_48 : decode cX11_stumble 48 = .ok (.aload_n 0, 1) := by decide +kernel
theorem dX11_stumble_49 : decode cX11_stumble 49 = .ok (.getfield 35, 3) := by decide +kernel
theorem dX11_stumble_52 : decode cX11_stumble 52 = .ok (.iconst 3, 1) := by decide +kernel
theorem dX11_stumble_53 : decode cX11_stumble 53 = .ok (.iaload, 1) := by decide +kernel
theorem dX11_stumble_54 : decode cX11_stumble 54 = .ok (.if_icmp .le 5, 3) := by decide +kernel
theorem dX11_stumble_57 : decode cX11_stumble 57 = .ok (.iload_n 2, 1) := by decide +kernel
theorem dX11_stumble_58 : decode cX11_stumble 58 = .ok (.ireturn, 1) := by decide +kernel
theorem dX11_stumble_59 : decode cX11_stumble 59 = .ok (.iinc 2 1, 3) := by decide +kernel
theorem dX11_stumble_62 : decode cX11_stumble 62 = .ok (.goto (-58), 3) := by decide +kernel
theorem dX11_stumble_65 : decode cX11_stumble 65 = .ok (.iconst (-1), 1) := by decide +kernel
theorem dX11_stumble_66 : decode cX11_stumble 66 = .ok (.ireturn, 1) := by decide +kernel
theorem dX11_isSaid_0 : decode cX11_isSaid 0 = .ok (.aload_n 0, 1) := by decide +kernel
theorem dX11_isSaid_1 : decode cX11_isSaid 1 = .ok (.getfield 384, 3) := by decide +kernel
theorem dX11_isSaid_4 : decode cX11_isSaid 4 = .ok (.ifCond .le 14, 3) := by decide +kernel
theorem dX11_isSaid_7 : decode cX11_isSaid 7 = .ok (.aload_n 0, 1) := by decide +kernel
theorem dX11_isSaid_8 : decode cX11_isSaid 8 = .ok (.invokevirtual 390, 3) := by decide +kernel
theorem dX11_isSaid_11 : decode cX11_isSaid 11 = .ok (.ifCond .ge 7, 3) := by decide +kernel
theorem dX11_isSaid_14 : decode cX11_isSaid 14 = .ok (.iconst 1, 1) := by decide +kernel
theorem dX11_isSaid_15 : decode cX11_isSaid 15 = .ok (.goto 4, 3) := by decide +kernel
theorem dX11_isSaid_18 : decode cX11_isSaid 18 = .ok (.iconst 0, 1) := by decide +kernel
theorem dX11_isSaid_19 : decode cX11_isSaid 19 = .ok (.ireturn, 1) := by decide +kernel
theorem dX11_layName_0 : decode cX11_layName 0 = .ok (.aload_n 0, 1) := by decide +kernel
theorem dX11_layName_1 : decode cX11_layName 1 = .ok (.iconst 0, 1) := by decide +kernel
theorem dX11_layName_2 : decode cX11_layName 2 = .ok (.putfield 384, 3) := by decide +kernel
theorem dX11_layName_5 : decode cX11_layName 5 = .ok (.iconst 0, 1) := by decide +kernel
theorem dX11_layName_6 : decode cX11_layName 6 = .ok (.istore_n 3, 1) := by decide +kernel
theorem dX11_layName_7 : decode cX11_layName 7 = .ok (.iload_n 3, 1) := by decide +kernel
theorem dX11_layName_8 : decode cX11_layName 8 = .ok (.aload_n 0, 1) := by decide +kernel
theorem dX11_layName_9 : decode cX11_layName 9 = .ok (.iload_n 1, 1) := by decide +kernel
theorem dX11_layName_10 : decode cX11_layName 10 = .ok (.invokevirtual 333, 3) := by decide +kernel
theorem dX11_layName_13 : decode cX11_layName 13 = .ok (.if_icmp .ge 45, 3) := by decide +kernel
theorem dX11_layName_16 : decode cX11_layName 16 = .ok (.iload_n 2, 1) := by decide +kernel
theorem dX11_layName_17 : decode cX11_layName 17 = .ok (.iload_n 3, 1) := by decide +kernel
theorem dX11_layName_18 : decode cX11_layName 18 = .ok (.invokestatic 277, 3) := by decide +kernel
theorem dX11_layName_21 : decode cX11_layName 21 = .ok (.ifCond .eq 6, 3) := by decide +kernel
theorem dX11_layName_24 : decode cX11_layName 24 = .ok (.goto 28, 3) := by decide +kernel
theorem dX11_layName_27 : decode cX11_layName 27 = .ok (.aload_n 0, 1) := by decide +kernel
theorem dX11_layName_28 : decode cX11_layName 28 = .ok (.getfield 44, 3) := by decide +kernel
theorem dX11_layName_31 : decode cX11_layName 31 = .ok (.aload_n 0, 1) := by decide +kernel
theorem dX11_layName_32 : decode cX11_layName 32 = .ok (.getfield 384, 3) := by decide +kernel
theorem dX11_layName_35 : decode cX11_layName 35 = .ok (.aload_n 0, 1) := by decide +kernel
theorem dX11_layName_36 : decode cX11_layName 36 = .ok (.iload_n 1, 1) := by decide +kernel
theorem dX11_layName_37 : decode cX11_layName 37 = .ok (.iload_n 3, 1) := by decide +kernel
theorem dX11_layName_38 : decode cX11_layName 38 = .ok (.invokevirtual 348, 3) := by decide +kernel
theorem dX11_layName_41 : decode cX11_layName 41 = .ok (.iastore, 1) := by decide +kernel
theorem dX11_layName_42 : decode cX11_layName 42 = .ok (.aload_n 0, 1) := by decide +kernel
theorem dX11_layName_43 : decode cX11_layName 43 = .ok (.dup, 1) := by decide +kernel
theorem dX11_layName_44 : decode cX11_layName 44 = .ok (.getfield 384, 3) := by decide +kernel
theorem dX11_layName_47 : decode cX11_layName 47 = .ok (.iconst 1, 1) := by decide +kernel
theorem dX11_layName_48 : decode cX11_layName 48 = .ok (.iadd, 1) := by decide +kernel
theorem dX11_layName_49 : decode cX11_layName 49 = .ok (.putfield 384, 3) := by decide +kernel
theorem dX11_layName_52 : decode cX11_layName 52 = .ok (.iinc 3 1, 3) := by decide +kernel
theorem dX11_layName_55 : decode cX11_layName 55 = .ok (.goto (-48), 3) := by decide +kernel
theorem dX11_layName_58 : decode cX11_layName 58 = .ok (.return_, 1) := by decide +kernel
theorem dX11_saysName_0 : decode cX11_saysName 0 = .ok (.aload_n 0, 1) := by decide +kernel
theorem dX11_saysName_1 : decode cX11_saysName 1 = .ok (.iload_n 1, 1) := by decide +kernel
theorem dX11_saysName_2 : decode cX11_saysName 2 = .ok (.iload_n 2, 1) := by decide +kernel
theorem dX11_saysName_3 : decode cX11_saysName 3 = .ok (.invokevirtual 393, 3) := by decide +kernel
theorem dX11_saysName_6 : decode cX11_saysName 6 = .ok (.aload_n 0, 1) := by decide +kernel
theorem dX11_saysName_7 : decode cX11_saysName 7 = .ok (.invokevirtual 396, 3) := by decide +kernel
theorem dX11_saysName_10 : decode cX11_saysName 10 = .ok (.ireturn, 1) := by decide +kernel
theorem dX11_saysWith_0 : decode cX11_saysWith 0 = .ok (.aload_n 0, 1) := by decide +kernel
theorem dX11_saysWith_1 : decode cX11_saysWith 1 = .ok (.iload_n 1, 1) := by decide +kernel
theorem dX11_saysWith_2 : decode cX11_saysWith 2 = .ok (.iconst 0, 1) := by decide +kernel
theorem dX11_saysWith_3 : decode cX11_saysWith 3 = .ok (.invokevirtual 393, 3) := by decide +kernel
theorem dX11_saysWith_6 : decode cX11_saysWith 6 = .ok (.aload_n 0, 1) := by decide +kernel
theorem dX11_saysWith_7 : decode cX11_saysWith 7 = .ok (.getfield 44, 3) := by decide +kernel
theorem dX11_saysWith_10 : decode cX11_saysWith 10 = .ok (.aload_n 0, 1) := by decide +kernel
theorem dX11_saysWith_11 : decode cX11_saysWith 11 = .ok (.getfield 384, 3) := by decide +kernel
theorem dX11_saysWith_14 : decode cX11_saysWith 14 = .ok (.aload_n 0, 1) := by decide +kernel
theorem dX11_saysWith_15 : decode cX11_saysWith 15 = .ok (.getfield 35, 3) := by decide +kernel
theorem dX11_saysWith_18 : decode cX11_saysWith 18 = .ok (.iconst 4, 1) := by decide +kernel
theorem dX11_saysWith_19 : decode cX11_saysWith 19 = .ok (.iload_n 2, 1) := by decide +kernel
theorem dX11_saysWith_20 : decode cX11_saysWith 20 = .ok (.iadd, 1) := by decide +kernel
theorem dX11_saysWith_21 : decode cX11_saysWith 21 = .ok (.iaload, 1) := by decide +kernel
theorem dX11_saysWith_22 : decode cX11_saysWith 22 = .ok (.iastore, 1) := by decide +kernel
theorem dX11_saysWith_23 : decode cX11_saysWith 23 = .ok (.aload_n 0, 1) := by decide +kernel
theorem dX11_saysWith_24 : decode cX11_saysWith 24 = .ok (.dup, 1) := by decide +kernel
theorem dX11_saysWith_25 : decode cX11_saysWith 25 = .ok (.getfield 384, 3) := by decide +kernel
theorem dX11_saysWith_28 : decode cX11_saysWith 28 = .ok (.iconst 1, 1) := by decide +kernel
theorem dX11_saysWith_29 : decode cX11_saysWith 29 = .ok (.iadd, 1) := by decide +kernel
theorem dX11_saysWith_30 : decode cX11_saysWith 30 = .ok (.putfield 384, 3) := by decide +kernel
theorem dX11_saysWith_33 : decode cX11_saysWith 33 = .ok (.aload_n 0, 1) := by decide +kernel
theorem dX11_saysWith_34 : decode cX11_saysWith 34 = .ok (.invokevirtual 396, 3) := by decide +kernel
theorem dX11_saysWith_37 : decode cX11_saysWith 37 = .ok (.ireturn, 1) := by decide +kernel
theorem dX11_choiceOf_0 : decode cX11_choiceOf 0 = .ok (.aload_n 0, 1) := by decide +kernel
theorem dX11_choiceOf_1 : decode cX11_choiceOf 1 = .ok (.iload_n 1, 1) := by decide +kernel
theorem dX11_choiceOf_2 : decode cX11_choiceOf 2 = .ok (.iconst 1, 1) := by decide +kernel
theorem dX11_choiceOf_3 : decode cX11_choiceOf 3 = .ok (.invokevirtual 377, 3) := by decide +kernel
theorem dX11_choiceOf_6 : decode cX11_choiceOf 6 = .ok (.istore_n 2, 1) := by decide +kernel
theorem dX11_choiceOf_7 : decode cX11_choiceOf 7 = .ok (.iconst (-1), 1) := by decide +kernel
theorem dX11_choiceOf_8 : decode cX11_choiceOf 8 = .ok (.istore_n 3, 1) := by decide +kernel
theorem dX11_choiceOf_9 : decode cX11_choiceOf 9 = .ok (.iconst 0, 1) := by decide +kernel
theorem dX11_choiceOf_10 : decode cX11_choiceOf 10 = .ok (.istore 4, 2) := by decide +kernel
theorem dX11_choiceOf_12 : decode cX11_choiceOf 12 = .ok (.iconst 0, 1) := by decide +kernel
theorem dX11_choiceOf_13 : decode cX11_choiceOf 13 = .ok (.istore 5, 2) := by decide +kernel
theorem dX11_choiceOf_15 : decode cX11_choiceOf 15 = .ok (.iload 5, 2) := by decide +kernel
theorem dX11_choiceOf_17 : decode cX11_choiceOf 17 = .ok (.aload_n 0, 1) := by decide +kernel
theorem dX11_choiceOf_18 : decode cX11_choiceOf 18 = .ok (.getfield 35, 3) := by decide +kernel
theorem dX11_choiceOf_21 : decode cX11_choiceOf 21 = .ok (.iconst 1, 1) := by decide +kernel
theorem dX11_choiceOf_22 : decode cX11_choiceOf 22 = .ok (.iaload, 1) := by decide +kernel
theorem dX11_choiceOf_23 : decode cX11_choiceOf 23 = .ok (.if_icmp .ge 77, 3) := by decide +kernel
theorem dX11_choiceOf_26 : decode cX11_choiceOf 26 = .ok (.iload_n 2, 1) := by decide +kernel
theorem dX11_choiceOf_27 : decode cX11_choiceOf 27 = .ok (.iload 5, 2) := by decide +kernel
theorem dX11_choiceOf_29 : decode cX11_choiceOf 29 = .ok (.invokestatic 277, 3) := by decide +kernel
theorem dX11_choiceOf_32 : decode cX11_choiceOf 32 = .ok (.ifCond .ne 6, 3) := by decide +kernel
theorem dX11_choiceOf_35 : decode cX11_choiceOf 35 = .ok (.goto 59, 3) := by decide +kernel
theorem dX11_choiceOf_38 : decode cX11_choiceOf 38 = .ok (.aload_n 0, 1) := by decide +kernel
theorem dX11_choiceOf_39 : decode cX11_choiceOf 39 = .ok (.iload_n 1, 1) := by decide +kernel
theorem dX11_choiceOf_40 : decode cX11_choiceOf 40 = .ok (.iload 5, 2) := by decide +kernel
theorem dX11_choiceOf_42 : decode cX11_choiceOf 42 = .ok (.invokevirtual 399, 3) := by decide +kernel
theorem dX11_choiceOf_45 : decode cX11_choiceOf 45 = .ok (.istore 6, 2) := by decide +kernel
theorem dX11_choiceOf_47 : decode cX11_choiceOf 47 = .ok (.iload_n 3, 1) := by decide +kernel
theorem dX11_choiceOf_48 : decode cX11_choiceOf 48 = .ok (.ifCond .lt 39, 3) := by decide +kernel
theorem dX11_choiceOf_51 : decode cX11_choiceOf 51 = .ok (.iload 4, 2) := by decide +kernel
theorem dX11_choiceOf_53 : decode cX11_choiceOf 53 = .ok (.ifCond .eq 8, 3) := by decide +kernel
theorem dX11_choiceOf_56 : decode cX11_choiceOf 56 = .ok (.iload 6, 2) := by decide +kernel
theorem dX11_choiceOf_58 : decode cX11_choiceOf 58 = .ok (.ifCond .eq 36, 3) := by decide +kernel
theorem dX11_choiceOf_61 : decode cX11_choiceOf 61 = .ok (.iload 4, 2) := by decide +kernel
theorem dX11_choiceOf_63 : decode cX11_choiceOf 63 = .ok (.iload 6, 2) := by decide +kernel
theorem dX11_choiceOf_65 : decode cX11_choiceOf 65 = .ok (.if_icmp .ne 22, 3) := by decide +kernel
theorem dX11_choiceOf_68 : decode cX11_choiceOf 68 = .ok (.aload_n 0, 1) := by decide +kernel
theorem dX11_choiceOf_69 : decode cX11_choiceOf 69 = .ok (.iload_n 1, 1) := by decide +kernel
theorem dX11_choiceOf_70 : decode cX11_choiceOf 70 = .ok (.iload 5, 2) := by decide +kernel
theorem dX11_choiceOf_72 : decode cX11_choiceOf 72 = .ok (.invokevirtual 357, 3) := by decide +kernel
theorem dX11_choiceOf_75 : decode cX11_choiceOf 75 = .ok (.aload_n 0, 1) := by decide +kernel
theorem dX11_choiceOf_76 : decode cX11_choiceOf 76 = .ok (.iload_n 1, 1) := by decide +kernel
theorem dX11_choiceOf_77 : decode cX11_choiceOf 77 = .ok (.iload_n 3, 1) := by decide +kernel
theorem dX11_choiceOf_78 : decode cX11_choiceOf 78 = .ok (.invokevirtual 357, 3) := by decide +kernel
theorem dX11_choiceOf_81 : decode cX11_choiceOf 81 = .ok (.if_icmp .lt 6, 3) := by decide +kernel
theorem dX11_choiceOf_84 : decode cX11_choiceOf 84 = .ok (.goto 10, 3) := by decide +kernel
theorem dX11_choiceOf_87 : decode cX11_choiceOf 87 = .ok (.iload 5, 2) := by decide +kernel
theorem dX11_choiceOf_89 : decode cX11_choiceOf 89 = .ok (.istore_n 3, 1) := by decide +kernel
theorem dX11_choiceOf_90 : decode cX11_choiceOf 90 = .ok (.iload 6, 2) := by decide +kernel
theorem dX11_choiceOf_92 : decode cX11_choiceOf 92 = .ok (.istore 4, 2) := by decide +kernel
theorem dX11_choiceOf_94 : decode cX11_choiceOf 94 = .ok (.iinc 5 1, 3) := by decide +kernel
theorem dX11_choiceOf_97 : decode cX11_choiceOf 97 = .ok (.goto (-82), 3) := by decide +kernel
theorem dX11_choiceOf_100 : decode cX11_choiceOf 100 = .ok (.iload_n 3, 1) := by decide +kernel
theorem dX11_choiceOf_101 : decode cX11_choiceOf 101 = .ok (.ireturn, 1) := by decide +kernel
theorem dX11_choice_0 : decode cX11_choice 0 = .ok (.aload_n 0, 1) := by decide +kernel
theorem dX11_choice_1 : decode cX11_choice 1 = .ok (.iconst 0, 1) := by decide +kernel
theorem dX11_choice_2 : decode cX11_choice 2 = .ok (.putfield 94, 3) := by decide +kernel
theorem dX11_choice_5 : decode cX11_choice 5 = .ok (.aload_n 0, 1) := by decide +kernel
theorem dX11_choice_6 : decode cX11_choice 6 = .ok (.iconst 0, 1) := by decide +kernel
theorem dX11_choice_7 : decode cX11_choice 7 = .ok (.putfield 97, 3) := by decide +kernel
theorem dX11_choice_10 : decode cX11_choice 10 = .ok (.aload_n 0, 1) := by decide +kernel
theorem dX11_choice_11 : decode cX11_choice 11 = .ok (.iload_n 1, 1) := by decide +kernel
theorem dX11_choice_12 : decode cX11_choice 12 = .ok (.invokevirtual 342, 3) := by decide +kernel
theorem dX11_choice_15 : decode cX11_choice 15 = .ok (.ifCond .ne 9, 3) := by decide +kernel
theorem dX11_choice_18 : decode cX11_choice 18 = .ok (.aload_n 0, 1) := by decide +kernel
theorem dX11_choice_19 : decode cX11_choice 19 = .ok (.iconst 2, 1) := by decide +kernel
theorem dX11_choice_20 : decode cX11_choice 20 = .ok (.invokevirtual 336, 3) := by decide +kernel
theorem dX11_choice_23 : decode cX11_choice 23 = .ok (.ireturn, 1) := by decide +kernel
theorem dX11_choice_24 : decode cX11_choice 24 = .ok (.aload_n 0, 1) := by decide +kernel
theorem dX11_choice_25 : decode cX11_choice 25 = .ok (.iload_n 1, 1) := by decide +kernel
theorem dX11_choice_26 : decode cX11_choice 26 = .ok (.invokevirtual 402, 3) := by decide +kernel
theorem dX11_choice_29 : decode cX11_choice 29 = .ok (.istore_n 2, 1) := by decide +kernel
theorem dX11_choice_30 : decode cX11_choice 30 = .ok (.iload_n 2, 1) := by decide +kernel
theorem dX11_choice_31 : decode cX11_choice 31 = .ok (.ifCond .ge 12, 3) := by decide +kernel
theorem dX11_choice_34 : decode cX11_choice 34 = .ok (.aload_n 0, 1) := by decide +kernel
theorem dX11_choice_35 : decode cX11_choice 35 = .ok (.bipush 8, 2) := by decide +kernel
theorem dX11_choice_37 : decode cX11_choice 37 = .ok (.invokevirtual 336, 3) := by decide +kernel
theorem dX11_choice_40 : decode cX11_choice 40 = .ok (.goto 4, 3) := by decide +kernel
theorem dX11_choice_43 : decode cX11_choice 43 = .ok (.iload_n 2, 1) := by decide +kernel
theorem dX11_choice_44 : decode cX11_choice 44 = .ok (.ireturn, 1) := by decide +kernel
theorem dX11_said_0 : decode cX11_said 0 = .ok (.aload_n 0, 1) := by decide +kernel
theorem dX11_said_1 : decode cX11_said 1 = .ok (.iconst 0, 1) := by decide +kernel
theorem dX11_said_2 : decode cX11_said 2 = .ok (.putfield 94, 3) := by decide +kernel
theorem dX11_said_5 : decode cX11_said 5 = .ok (.aload_n 0, 1) := by decide +kernel
theorem dX11_said_6 : decode cX11_said 6 = .ok (.iconst 0, 1) := by decide +kernel
theorem dX11_said_7 : decode cX11_said 7 = .ok (.putfield 97, 3) := by decide +kernel
theorem dX11_said_10 : decode cX11_said 10 = .ok (.aload_n 0, 1) := by decide +kernel
theorem dX11_said_11 : decode cX11_said 11 = .ok (.iload_n 1, 1) := by decide +kernel
theorem dX11_said_12 : decode cX11_said 12 = .ok (.invokevirtual 342, 3) := by decide +kernel
theorem dX11_said_15 : decode cX11_said 15 = .ok (.ifCond .ne 9, 3) := by decide +kernel
theorem dX11_said_18 : decode cX11_said 18 = .ok (.aload_n 0, 1) := by decide +kernel
theorem dX11_said_19 : decode cX11_said 19 = .ok (.iconst 2, 1) := by decide +kernel
theorem dX11_said_20 : decode cX11_said 20 = .ok (.invokevirtual 336, 3) := by decide +kernel
theorem dX11_said_23 : decode cX11_said 23 = .ok (.ireturn, 1) := by decide +kernel
theorem dX11_said_24 : decode cX11_said 24 = .ok (.aload_n 0, 1) := by decide +kernel
theorem dX11_said_25 : decode cX11_said 25 = .ok (.iload_n 1, 1) := by decide +kernel
theorem dX11_said_26 : decode cX11_said 26 = .ok (.iconst 0, 1) := by decide +kernel
theorem dX11_said_27 : decode cX11_said 27 = .ok (.invokevirtual 405, 3) := by decide +kernel
theorem dX11_said_30 : decode cX11_said 30 = .ok (.ifCond .eq 7, 3) := by decide +kernel
theorem dX11_said_33 : decode cX11_said 33 = .ok (.iconst 1, 1) := by decide +kernel
theorem dX11_said_34 : decode cX11_said 34 = .ok (.goto 4, 3) := by decide +kernel
theorem dX11_said_37 : decode cX11_said 37 = .ok (.iconst 0, 1) := by decide +kernel
theorem dX11_said_38 : decode cX11_said 38 = .ok (.ireturn, 1) := by decide +kernel
theorem dX11_stumbles_0 : decode cX11_stumbles 0 = .ok (.aload_n 0, 1) := by decide +kernel
theorem dX11_stumbles_1 : decode cX11_stumbles 1 = .ok (.iconst 0, 1) := by decide +kernel
theorem dX11_stumbles_2 : decode cX11_stumbles 2 = .ok (.putfield 94, 3) := by decide +kernel
theorem dX11_stumbles_5 : decode cX11_stumbles 5 = .ok (.aload_n 0, 1) := by decide +kernel
theorem dX11_stumbles_6 : decode cX11_stumbles 6 = .ok (.iconst 0, 1) := by decide +kernel
theorem dX11_stumbles_7 : decode cX11_stumbles 7 = .ok (.putfield 97, 3) := by decide +kernel
theorem dX11_stumbles_10 : decode cX11_stumbles 10 = .ok (.aload_n 0, 1) := by decide +kernel
theorem dX11_stumbles_11 : decode cX11_stumbles 11 = .ok (.iload_n 1, 1) := by decide +kernel
theorem dX11_stumbles_12 : decode cX11_stumbles 12 = .ok (.invokevirtual 342, 3) := by decide +kernel
theorem dX11_stumbles_15 : decode cX11_stumbles 15 = .ok (.ifCond .ne 9, 3) := by decide +kernel
theorem dX11_stumbles_18 : decode cX11_stumbles 18 = .ok (.aload_n 0, 1) := by decide +kernel
theorem dX11_stumbles_19 : decode cX11_stumbles 19 = .ok (.iconst 2, 1) := by decide +kernel
theorem dX11_stumbles_20 : decode cX11_stumbles 20 = .ok (.invokevirtual 336, 3) := by decide +kernel
theorem dX11_stumbles_23 : decode cX11_stumbles 23 = .ok (.ireturn, 1) := by decide +kernel
theorem dX11_stumbles_24 : decode cX11_stumbles 24 = .ok (.aload_n 0, 1) := by decide +kernel
theorem dX11_stumbles_25 : decode cX11_stumbles 25 = .ok (.iload_n 1, 1) := by decide +kernel
theorem dX11_stumbles_26 : decode cX11_stumbles 26 = .ok (.iconst 0, 1) := by decide +kernel
theorem dX11_stumbles_27 : decode cX11_stumbles 27 = .ok (.invokevirtual 393, 3) := by decide +kernel
theorem dX11_stumbles_30 : decode cX11_stumbles 30 = .ok (.aload_n 0, 1) := by decide +kernel
theorem dX11_stumbles_31 : decode cX11_stumbles 31 = .ok (.invokevirtual 390, 3) := by decide +kernel
theorem dX11_stumbles_34 : decode cX11_stumbles 34 = .ok (.istore_n 2, 1) := by decide +kernel
theorem dX11_stumbles_35 : decode cX11_stumbles 35 = .ok (.iload_n 2, 1) := by decide +kernel
theorem dX11_stumbles_36 : decode cX11_stumbles 36 = .ok (.ifCond .ge 12, 3) := by decide +kernel
theorem dX11_stumbles_39 : decode cX11_stumbles 39 = .ok (.aload_n 0, 1) := by decide +kernel
theorem dX11_stumbles_40 : decode cX11_stumbles 40 = .ok (.bipush 8, 2) := by decide +kernel
theorem dX11_stumbles_42 : decode cX11_stumbles 42 = .ok (.invokevirtual 336, 3) := by decide +kernel
theorem dX11_stumbles_45 : decode cX11_stumbles 45 = .ok (.goto 4, 3) := by decide +kernel
theorem dX11_stumbles_48 : decode cX11_stumbles 48 = .ok (.iload_n 2, 1) := by decide +kernel
theorem dX11_stumbles_49 : decode cX11_stumbles 49 = .ok (.ireturn, 1) := by decide +kernel
theorem dX11_drop_0 : decode cX11_drop 0 = .ok (.aload_n 0, 1) := by decide +kernel
theorem dX11_drop_1 : decode cX11_drop 1 = .ok (.iconst 0, 1) := by decide +kernel
theorem dX11_drop_2 : decode cX11_drop 2 = .ok (.putfield 94, 3) := by decide +kernel
theorem dX11_drop_5 : decode cX11_drop 5 = .ok (.aload_n 0, 1) := by decide +kernel
theorem dX11_drop_6 : decode cX11_drop 6 = .ok (.iconst 0, 1) := by decide +kernel
theorem dX11_drop_7 : decode cX11_drop 7 = .ok (.putfield 97, 3) := by decide +kernel
theorem dX11_drop_10 : decode cX11_drop 10 = .ok (.aload_n 0, 1) := by decide +kernel
theorem dX11_drop_11 : decode cX11_drop 11 = .ok (.iload_n 1, 1) := by decide +kernel
theorem dX11_drop_12 : decode cX11_drop 12 = .ok (.invokevirtual 342, 3) := by decide +kernel
theorem dX11_drop_15 : decode cX11_drop 15 = .ok (.ifCond .ne 9, 3) := by decide +kernel
theorem dX11_drop_18 : decode cX11_drop 18 = .ok (.aload_n 0, 1) := by decide +kernel
theorem dX11_drop_19 : decode cX11_drop 19 = .ok (.iconst 2, 1) := by decide +kernel
theorem dX11_drop_20 : decode cX11_drop 20 = .ok (.invokevirtual 336, 3) := by decide +kernel
theorem dX11_drop_23 : decode cX11_drop 23 = .ok (.ireturn, 1) := by decide +kernel
theorem dX11_drop_24 : decode cX11_drop 24 = .ok (.aload_n 0, 1) := by decide +kernel
theorem dX11_drop_25 : decode cX11_drop 25 = .ok (.iload_n 1, 1) := by decide +kernel
theorem dX11_drop_26 : decode cX11_drop 26 = .ok (.invokevirtual 333, 3) := by decide +kernel
theorem dX11_drop_29 : decode cX11_drop 29 = .ok (.istore_n 2, 1) := by decide +kernel
theorem dX11_drop_30 : decode cX11_drop 30 = .ok (.iload_n 2, 1) := by decide +kernel
theorem dX11_drop_31 : decode cX11_drop 31 = .ok (.ifCond .ne 10, 3) := by decide +kernel
theorem dX11_drop_34 : decode cX11_drop 34 = .ok (.aload_n 0, 1) := by decide +kernel
theorem dX11_drop_35 : decode cX11_drop 35 = .ok (.bipush 8, 2) := by decide +kernel
theorem dX11_drop_37 : decode cX11_drop 37 = .ok (.invokevirtual 336, 3) := by decide +kernel
theorem dX11_drop_40 : decode cX11_drop 40 = .ok (.ireturn, 1) := by decide +kernel
theorem dX11_drop_41 : decode cX11_drop 41 = .ok (.iload_n 2, 1) := by decide +kernel
theorem dX11_drop_42 : decode cX11_drop 42 = .ok (.istore_n 3, 1) := by decide +kernel
theorem dX11_drop_43 : decode cX11_drop 43 = .ok (.iconst 0, 1) := by decide +kernel
theorem dX11_drop_44 : decode cX11_drop 44 = .ok (.istore 4, 2) := by decide +kernel
theorem dX11_drop_46 : decode cX11_drop 46 = .ok (.iload 4, 2) := by decide +kernel
theorem dX11_drop_48 : decode cX11_drop 48 = .ok (.iconst 1, 1) := by decide +kernel
theorem dX11_drop_49 : decode cX11_drop 49 = .ok (.iload_n 2, 1) := by decide +kernel
theorem dX11_drop_50 : decode cX11_drop 50 = .ok (.ishl, 1) := by decide +kernel
theorem dX11_drop_51 : decode cX11_drop 51 = .ok (.if_icmp .ge 34, 3) := by decide +kernel
theorem dX11_drop_54 : decode cX11_drop 54 = .ok (.iload 4, 2) := by decide +kernel
theorem dX11_drop_56 : decode cX11_drop 56 = .ok (.invokestatic 381, 3) := by decide +kernel
theorem dX11_drop_59 : decode cX11_drop 59 = .ok (.iload_n 3, 1) := by decide +kernel
theorem dX11_drop_60 : decode cX11_drop 60 = .ok (.if_icmp .ge 19, 3) := by decide +kernel
theorem dX11_drop_63 : decode cX11_drop 63 = .ok (.aload_n 0, 1) := by decide +kernel
theorem dX11_drop_64 : decode cX11_drop 64 = .ok (.iload_n 1, 1) := by decide +kernel
theorem dX11_drop_65 : decode cX11_drop 65 = .ok (.iload 4, 2) := by decide +kernel
theorem dX11_drop_67 : decode cX11_drop 67 = .ok (.invokevirtual 405, 3) := by decide +kernel
theorem dX11_drop_70 : decode cX11_drop 70 = .ok (.ifCond .eq 9, 3) := by decide +kernel
theorem dX11_drop_73 : decode cX11_drop 73 = .ok (.iload 4, 2) := by decide +kernel
theorem dX11_drop_75 : decode cX11_drop 75 = .ok (.invokestatic 381, 3) := by decide +kernel
theorem dX11_drop_78 : decode cX11_drop 78 = .ok (.istore_n 3, 1) := by decide +kernel
theorem dX11_drop_79 : decode cX11_drop 79 = .ok (.iinc 4 1, 3) := by decide +kernel
theorem dX11_drop_82 : decode cX11_drop 82 = .ok (.goto (-36), 3) := by decide +kernel
theorem dX11_drop_85 : decode cX11_drop 85 = .ok (.iload_n 3, 1) := by decide +kernel
theorem dX11_drop_86 : decode cX11_drop 86 = .ok (.ireturn, 1) := by decide +kernel
theorem dX11_weakOf_0 : decode cX11_weakOf 0 = .ok (.iconst 0, 1) := by decide +kernel
theorem dX11_weakOf_1 : decode cX11_weakOf 1 = .ok (.istore_n 2, 1) := by decide +kernel
theorem dX11_weakOf_2 : decode cX11_weakOf 2 = .ok (.iload_n 2, 1) := by decide +kernel
theorem dX11_weakOf_3 : decode cX11_weakOf 3 = .ok (.aload_n 0, 1) := by decide +kernel
theorem dX11_weakOf_4 : decode cX11_weakOf 4 = .ok (.iload_n 1, 1) := by decide +kernel
theorem dX11_weakOf_5 : decode cX11_weakOf 5 = .ok (.invokevirtual 333, 3) := by decide +kernel
theorem dX11_weakOf_8 : decode cX11_weakOf 8 = .ok (.if_icmp .ge 22, 3) := by decide +kernel
theorem dX11_weakOf_11 : decode cX11_weakOf 11 = .ok (.aload_n 0, 1) := by decide +kernel
theorem dX11_weakOf_12 : decode cX11_weakOf 12 = .ok (.iload_n 1, 1) := by decide +kernel
theorem dX11_weakOf_13 : decode cX11_weakOf 13 = .ok (.iconst 1, 1) := by decide +kernel
theorem dX11_weakOf_14 : decode cX11_weakOf 14 = .ok (.iload_n 2, 1) := by decide +kernel
theorem dX11_weakOf_15 : decode cX11_weakOf 15 = .ok (.ishl, 1) := by decide +kernel
theorem dX11_weakOf_16 : decode cX11_weakOf 16 = .ok (.invokevirtual 405, 3) := by decide +kernel
theorem dX11_weakOf_19 : decode cX11_weakOf 19 = .ok (.ifCond .ne 5, 3) := by decide +kernel
theorem dX11_weakOf_22 : decode cX11_weakOf 22 = .ok (.iload_n 2, 1) := by decide +kernel
theorem dX11_weakOf_23 : decode cX11_weakOf 23 = .ok (.ireturn, 1) := by decide +kernel
theorem dX11_weakOf_24 : decode cX11_weakOf 24 = .ok (.iinc 2 1, 3) := by decide +kernel
theorem dX11_weakOf_27 : decode cX11_weakOf 27 = .ok (.goto (-25), 3) := by decide +kernel
theorem dX11_weakOf_30 : decode cX11_weakOf 30 = .ok (.iconst (-1), 1) := by decide +kernel
theorem dX11_weakOf_31 : decode cX11_weakOf 31 = .ok (.ireturn, 1) := by decide +kernel
theorem dX11_firm_0 : decode cX11_firm 0 = .ok (.aload_n 0, 1) := by decide +kernel
theorem dX11_firm_1 : decode cX11_firm 1 = .ok (.iconst 0, 1) := by decide +kernel
theorem dX11_firm_2 : decode cX11_firm 2 = .ok (.putfield 94, 3) := by decide +kernel
theorem dX11_firm_5 : decode cX11_firm 5 = .ok (.aload_n 0, 1) := by decide +kernel
theorem dX11_firm_6 : decode cX11_firm 6 = .ok (.iconst 0, 1) := by decide +kernel
theorem dX11_firm_7 : decode cX11_firm 7 = .ok (.putfield 97, 3) := by decide +kernel
theorem dX11_firm_10 : decode cX11_firm 10 = .ok (.aload_n 0, 1) := by decide +kernel
theorem dX11_firm_11 : decode cX11_firm 11 = .ok (.iload_n 1, 1) := by decide +kernel
theorem dX11_firm_12 : decode cX11_firm 12 = .ok (.invokevirtual 342, 3) := by decide +kernel
theorem dX11_firm_15 : decode cX11_firm 15 = .ok (.ifCond .ne 9, 3) := by decide +kernel
theorem dX11_firm_18 : decode cX11_firm 18 = .ok (.aload_n 0, 1) := by decide +kernel
theorem dX11_firm_19 : decode cX11_firm 19 = .ok (.iconst 2, 1) := by decide +kernel
theorem dX11_firm_20 : decode cX11_firm 20 = .ok (.invokevirtual 336, 3) := by decide +kernel
theorem dX11_firm_23 : decode cX11_firm 23 = .ok (.ireturn, 1) := by decide +kernel
theorem dX11_firm_24 : decode cX11_firm 24 = .ok (.aload_n 0, 1) := by decide +kernel
theorem dX11_firm_25 : decode cX11_firm 25 = .ok (.iload_n 1, 1) := by decide +kernel
theorem dX11_firm_26 : decode cX11_firm 26 = .ok (.iconst 0, 1) := by decide +kernel
theorem dX11_firm_27 : decode cX11_firm 27 = .ok (.invokevirtual 405, 3) := by decide +kernel
theorem dX11_firm_30 : decode cX11_firm 30 = .ok (.ifCond .eq 15, 3) := by decide +kernel
theorem dX11_firm_33 : decode cX11_firm 33 = .ok (.aload_n 0, 1) := by decide +kernel
theorem dX11_firm_34 : decode cX11_firm 34 = .ok (.iload_n 1, 1) := by decide +kernel
theorem dX11_firm_35 : decode cX11_firm 35 = .ok (.invokevirtual 408, 3) := by decide +kernel
theorem dX11_firm_38 : decode cX11_firm 38 = .ok (.ifCond .ge 7, 3) := by decide +kernel
theorem dX11_firm_41 : decode cX11_firm 41 = .ok (.iconst 1, 1) := by decide +kernel
theorem dX11_firm_42 : decode cX11_firm 42 = .ok (.goto 4, 3) := by decide +kernel
theorem dX11_firm_45 : decode cX11_firm 45 = .ok (.iconst 0, 1) := by decide +kernel
theorem dX11_firm_46 : decode cX11_firm 46 = .ok (.ireturn, 1) := by decide +kernel
theorem dX11_weak_0 : decode cX11_weak 0 = .ok (.aload_n 0, 1) := by decide +kernel
theorem dX11_weak_1 : decode cX11_weak 1 = .ok (.iconst 0, 1) := by decide +kernel
theorem dX11_weak_2 : decode cX11_weak 2 = .ok (.putfield 94, 3) := by decide +kernel
theorem dX11_weak_5 : decode cX11_weak 5 = .ok (.aload_n 0, 1) := by decide +kernel
theorem dX11_weak_6 : decode cX11_weak 6 = .ok (.iconst 0, 1) := by decide +kernel
theorem dX11_weak_7 : decode cX11_weak 7 = .ok (.putfield 97, 3) := by decide +kernel
theorem dX11_weak_10 : decode cX11_weak 10 = .ok (.aload_n 0, 1) := by decide +kernel
theorem dX11_weak_11 : decode cX11_weak 11 = .ok (.iload_n 1, 1) := by decide +kernel
theorem dX11_weak_12 : decode cX11_weak 12 = .ok (.invokevirtual 342, 3) := by decide +kernel
theorem dX11_weak_15 : decode cX11_weak 15 = .ok (.ifCond .ne 9, 3) := by decide +kernel
theorem dX11_weak_18 : decode cX11_weak 18 = .ok (.aload_n 0, 1) := by decide +kernel
theorem dX11_weak_19 : decode cX11_weak 19 = .ok (.iconst 2, 1) := by decide +kernel
theorem dX11_weak_20 : decode cX11_weak 20 = .ok (.invokevirtual 336, 3) := by decide +kernel
theorem dX11_weak_23 : decode cX11_weak 23 = .ok (.ireturn, 1) := by decide +kernel
theorem dX11_weak_24 : decode cX11_weak 24 = .ok (.aload_n 0, 1) := by decide +kernel
theorem dX11_weak_25 : decode cX11_weak 25 = .ok (.iload_n 1, 1) := by decide +kernel
theorem dX11_weak_26 : decode cX11_weak 26 = .ok (.iconst 0, 1) := by decide +kernel
theorem dX11_weak_27 : decode cX11_weak 27 = .ok (.invokevirtual 405, 3) := by decide +kernel
theorem dX11_weak_30 : decode cX11_weak 30 = .ok (.ifCond .eq 11, 3) := by decide +kernel
theorem dX11_weak_33 : decode cX11_weak 33 = .ok (.aload_n 0, 1) := by decide +kernel
theorem dX11_weak_34 : decode cX11_weak 34 = .ok (.iload_n 1, 1) := by decide +kernel
theorem dX11_weak_35 : decode cX11_weak 35 = .ok (.invokevirtual 408, 3) := by decide +kernel
theorem dX11_weak_38 : decode cX11_weak 38 = .ok (.goto 4, 3) := by decide +kernel
theorem dX11_weak_41 : decode cX11_weak 41 = .ok (.iconst (-1), 1) := by decide +kernel
theorem dX11_weak_42 : decode cX11_weak 42 = .ok (.istore_n 2, 1) := by decide +kernel
theorem dX11_weak_43 : decode cX11_weak 43 = .ok (.iload_n 2, 1) := by decide +kernel
theorem dX11_weak_44 : decode cX11_weak 44 = .ok (.ifCond .ge 12, 3) := by decide +kernel
theorem dX11_weak_47 : decode cX11_weak 47 = .ok (.aload_n 0, 1) := by decide +kernel
theorem dX11_weak_48 : decode cX11_weak 48 = .ok (.bipush 8, 2) := by decide +kernel
theorem dX11_weak_50 : decode cX11_weak 50 = .ok (.invokevirtual 336, 3) := by decide +kernel
theorem dX11_weak_53 : decode cX11_weak 53 = .ok (.goto 4, 3) := by decide +kernel
theorem dX11_weak_56 : decode cX11_weak 56 = .ok (.iload_n 2, 1) := by decide +kernel
theorem dX11_weak_57 : decode cX11_weak 57 = .ok (.ireturn, 1) := by decide +kernel
theorem dX11_vowels_0 : decode cX11_vowels 0 = .ok (.aload_n 0, 1) := by decide +kernel
theorem dX11_vowels_1 : decode cX11_vowels 1 = .ok (.iconst 0, 1) := by decide +kernel
theorem dX11_vowels_2 : decode cX11_vowels 2 = .ok (.putfield 94, 3) := by decide +kernel
theorem dX11_vowels_5 : decode cX11_vowels 5 = .ok (.aload_n 0, 1) := by decide +kernel
theorem dX11_vowels_6 : decode cX11_vowels 6 = .ok (.iconst 0, 1) := by decide +kernel
theorem dX11_vowels_7 : decode cX11_vowels 7 = .ok (.putfield 97, 3) := by decide +kernel
theorem dX11_vowels_10 : decode cX11_vowels 10 = .ok (.aload_n 0, 1) := by decide +kernel
theorem dX11_vowels_11 : decode cX11_vowels 11 = .ok (.iload_n 1, 1) := by decide +kernel
theorem dX11_vowels_12 : decode cX11_vowels 12 = .ok (.invokevirtual 342, 3) := by decide +kernel
theorem dX11_vowels_15 : decode cX11_vowels 15 = .ok (.ifCond .ne 9, 3) := by decide +kernel
theorem dX11_vowels_18 : decode cX11_vowels 18 = .ok (.aload_n 0, 1) := by decide +kernel
theorem dX11_vowels_19 : decode cX11_vowels 19 = .ok (.iconst 2, 1) := by decide +kernel
theorem dX11_vowels_20 : decode cX11_vowels 20 = .ok (.invokevirtual 336, 3) := by decide +kernel
theorem dX11_vowels_23 : decode cX11_vowels 23 = .ok (.ireturn, 1) := by decide +kernel
theorem dX11_vowels_24 : decode cX11_vowels 24 = .ok (.iconst 0, 1) := by decide +kernel
theorem dX11_vowels_25 : decode cX11_vowels 25 = .ok (.istore_n 2, 1) := by decide +kernel
theorem dX11_vowels_26 : decode cX11_vowels 26 = .ok (.iconst 0, 1) := by decide +kernel
theorem dX11_vowels_27 : decode cX11_vowels 27 = .ok (.istore_n 3, 1) := by decide +kernel
theorem dX11_vowels_28 : decode cX11_vowels 28 = .ok (.iload_n 3, 1) := by decide +kernel
theorem dX11_vowels_29 : decode cX11_vowels 29 = .ok (.aload_n 0, 1) := by decide +kernel
theorem dX11_vowels_30 : decode cX11_vowels 30 = .ok (.iload_n 1, 1) := by decide +kernel
theorem dX11_vowels_31 : decode cX11_vowels 31 = .ok (.invokevirtual 333, 3) := by decide +kernel
theorem dX11_vowels_34 : decode cX11_vowels 34 = .ok (.if_icmp .ge 29, 3) := by decide +kernel
theorem dX11_vowels_37 : decode cX11_vowels 37 = .ok (.iload_n 2, 1) := by decide +kernel
theorem dX11_vowels_38 : decode cX11_vowels 38 = .ok (.aload_n 0, 1) := by decide +kernel
theorem dX11_vowels_39 : decode cX11_vowels 39 = .ok (.iload_n 1, 1) := by decide +kernel
theorem dX11_vowels_40 : decode cX11_vowels 40 = .ok (.iload_n 3, 1) := by decide +kernel
theorem dX11_vowels_41 : decode cX11_vowels 41 = .ok (.invokevirtual 348, 3) := by decide +kernel
theorem dX11_vowels_44 : decode cX11_vowels 44 = .ok (.invokestatic 387, 3) := by decide +kernel
theorem dX11_vowels_47 : decode cX11_vowels 47 = .ok (.ifCond .eq 7, 3) := by decide +kernel
theorem dX11_vowels_50 : decode cX11_vowels 50 = .ok (.iconst 1, 1) := by decide +kernel
theorem dX11_vowels_51 : decode cX11_vowels 51 = .ok (.goto 4, 3) := by decide +kernel
theorem dX11_vowels_54 : decode cX11_vowels 54 = .ok (.iconst 0, 1) := by decide +kernel
theorem dX11_vowels_55 : decode cX11_vowels 55 = .ok (.iadd, 1) := by decide +kernel
theorem dX11_vowels_56 : decode cX11_vowels 56 = .ok (.istore_n 2, 1) := by decide +kernel
theorem dX11_vowels_57 : decode cX11_vowels 57 = .ok (.iinc 3 1, 3) := by decide +kernel
theorem dX11_vowels_60 : decode cX11_vowels 60 = .ok (.goto (-32), 3) := by decide +kernel
theorem dX11_vowels_63 : decode cX11_vowels 63 = .ok (.iload_n 2, 1) := by decide +kernel
theorem dX11_vowels_64 : decode cX11_vowels 64 = .ok (.ireturn, 1) := by decide +kernel
theorem dX11_rhyme_0 : decode cX11_rhyme 0 = .ok (.aload_n 0, 1) := by decide +kernel
theorem dX11_rhyme_1 : decode cX11_rhyme 1 = .ok (.iconst 0, 1) := by decide +kernel
theorem dX11_rhyme_2 : decode cX11_rhyme 2 = .ok (.putfield 94, 3) := by decide +kernel
theorem dX11_rhyme_5 : decode cX11_rhyme 5 = .ok (.aload_n 0, 1) := by decide +kernel
theorem dX11_rhyme_6 : decode cX11_rhyme 6 = .ok (.iconst 0, 1) := by decide +kernel
theorem dX11_rhyme_7 : decode cX11_rhyme 7 = .ok (.putfield 97, 3) := by decide +kernel
theorem dX11_rhyme_10 : decode cX11_rhyme 10 = .ok (.aload_n 0, 1) := by decide +kernel
theorem dX11_rhyme_11 : decode cX11_rhyme 11 = .ok (.iload_n 1, 1) := by decide +kernel
theorem dX11_rhyme_12 : decode cX11_rhyme 12 = .ok (.invokevirtual 342, 3) := by decide +kernel
theorem dX11_rhyme_15 : decode cX11_rhyme 15 = .ok (.ifCond .eq 11, 3) := by decide +kernel
theorem dX11_rhyme_18 : decode cX11_rhyme 18 = .ok (.aload_n 0, 1) := by decide +kernel
theorem dX11_rhyme_19 : decode cX11_rhyme 19 = .ok (.iload_n 2, 1) := by decide +kernel
theorem dX11_rhyme_20 : decode cX11_rhyme 20 = .ok (.invokevirtual 342, 3) := by decide +kernel
theorem dX11_rhyme_23 : decode cX11_rhyme 23 = .ok (.ifCond .ne 9, 3) := by decide +kernel
theorem dX11_rhyme_26 : decode cX11_rhyme 26 = .ok (.aload_n 0, 1) := by decide +kernel
theorem dX11_rhyme_27 : decode cX11_rhyme 27 = .ok (.iconst 2, 1) := by decide +kernel
theorem dX11_rhyme_28 : decode cX11_rhyme 28 = .ok (.invokevirtual 336, 3) := by decide +kernel
theorem dX11_rhyme_31 : decode cX11_rhyme 31 = .ok (.ireturn, 1) := by decide +kernel
theorem dX11_rhyme_32 : decode cX11_rhyme 32 = .ok (.iload_n 1, 1) := by decide +kernel
theorem dX11_rhyme_33 : decode cX11_rhyme 33 = .ok (.iload_n 2, 1) := by decide +kernel
theorem dX11_rhyme_34 : decode cX11_rhyme 34 = .ok (.if_icmp .ne 9, 3) := by decide +kernel
theorem dX11_rhyme_37 : decode cX11_rhyme 37 = .ok (.aload_n 0, 1) := by decide +kernel
theorem dX11_rhyme_38 : decode cX11_rhyme 38 = .ok (.iconst 5, 1) := by decide +kernel
theorem dX11_rhyme_39 : decode cX11_rhyme 39 = .ok (.invokevirtual 336, 3) := by decide +kernel
theorem dX11_rhyme_42 : decode cX11_rhyme 42 = .ok (.ireturn, 1) := by decide +kernel
theorem dX11_rhyme_43 : decode cX11_rhyme 43 = .ok (.iconst 0, 1) := by decide +kernel
theorem dX11_rhyme_44 : decode cX11_rhyme 44 = .ok (.istore_n 3, 1) := by decide +kernel
theorem dX11_rhyme_45 : decode cX11_rhyme 45 = .ok (.iload_n 3, 1) := by decide +kernel
theorem dX11_rhyme_46 : decode cX11_rhyme 46 = .ok (.aload_n 0, 1) := by decide +kernel
theorem dX11_rhyme_47 : decode cX11_rhyme 47 = .ok (.iload_n 1, 1) := by decide +kernel
theorem dX11_rhyme_48 : decode cX11_rhyme 48 = .ok (.invokevirtual 333, 3) := by decide +kernel
theorem dX11_rhyme_51 : decode cX11_rhyme 51 = .ok (.if_icmp .ge 49, 3) := by decide +kernel
theorem dX11_rhyme_54 : decode cX11_rhyme 54 = .ok (.iload_n 3, 1) := by decide +kernel
theorem dX11_rhyme_55 : decode cX11_rhyme 55 = .ok (.aload_n 0, 1) := by decide +kernel
theorem dX11_rhyme_56 : decode cX11_rhyme 56 = .ok (.iload_n 2, 1) := by decide +kernel
theorem dX11_rhyme_57 : decode cX11_rhyme 57 = .ok (.invokevirtual 333, 3) := by decide +kernel
theorem dX11_rhyme_60 : decode cX11_rhyme 60 = .ok (.if_icmp .ge 40, 3) := by decide +kernel
theorem dX11_rhyme_63 : decode cX11_rhyme 63 = .ok (.aload_n 0, 1) := by decide +kernel
theorem dX11_rhyme_64 : decode cX11_rhyme 64 = .ok (.iload_n 1, 1) := by decide +kernel
theorem dX11_rhyme_65 : decode cX11_rhyme 65 = .ok (.aload_n 0, 1) := by decide +kernel
theorem dX11_rhyme_66 : decode cX11_rhyme 66 = .ok (.iload_n 1, 1) := by decide +kernel
theorem dX11_rhyme_67 : decode cX11_rhyme 67 = .ok (.invokevirtual 333, 3) := by decide +kernel
theorem dX11_rhyme_70 : decode cX11_rhyme 70 = .ok (.iconst 1, 1) := by decide +kernel
theorem dX11_rhyme_71 : decode cX11_rhyme 71 = .ok (.isub, 1) := by decide +kernel
theorem dX11_rhyme_72 : decode cX11_rhyme 72 = .ok (.iload_n 3, 1) := by decide +kernel
theorem dX11_rhyme_73 : decode cX11_rhyme 73 = .ok (.isub, 1) := by decide +kernel
theorem dX11_rhyme_74 : decode cX11_rhyme 74 = .ok (.invokevirtual 348, 3) := by decide +kernel
theorem dX11_rhyme_77 : decode cX11_rhyme 77 = .ok (.aload_n 0, 1) := by decide +kernel
theorem dX11_rhyme_78 : decode cX11_rhyme 78 = .ok (.iload_n 2, 1) := by decide +kernel
theorem dX11_rhyme_79 : decode cX11_rhyme 79 = .ok (.aload_n 0, 1) := by decide +kernel
theorem dX11_rhyme_80 : decode cX11_rhyme 80 = .ok (.iload_n 2, 1) := by decide +kernel
theorem dX11_rhyme_81 : decode cX11_rhyme 81 = .ok (.invokevirtual 333, 3) := by decide +kernel
theorem dX11_rhyme_84 : decode cX11_rhyme 84 = .ok (.iconst 1, 1) := by decide +kernel
theorem dX11_rhyme_85 : decode cX11_rhyme 85 = .ok (.isub, 1) := by decide +kernel
theorem dX11_rhyme_86 : decode cX11_rhyme 86 = .ok (.iload_n 3, 1) := by decide +kernel
theorem dX11_rhyme_87 : decode cX11_rhyme 87 = .ok (.isub, 1) := by decide +kernel
theorem dX11_rhyme_88 : decode cX11_rhyme 88 = .ok (.invokevirtual 348, 3) := by decide +kernel
theorem dX11_rhyme_91 : decode cX11_rhyme 91 = .ok (.if_icmp .ne 9, 3) := by decide +kernel
theorem dX11_rhyme_94 : decode cX11_rhyme 94 = .ok (.iinc 3 1, 3) := by decide +kernel
theorem dX11_rhyme_97 : decode cX11_rhyme 97 = .ok (.goto (-52), 3) := by decide +kernel
theorem dX11_rhyme_100 : decode cX11_rhyme 100 = .ok (.iload_n 3, 1) := by decide +kernel
theorem dX11_rhyme_101 : decode cX11_rhyme 101 = .ok (.ireturn, 1) := by decide +kernel
theorem dX11_apartOf_0 : decode cX11_apartOf 0 = .ok (.iconst 0, 1) := by decide +kernel
theorem dX11_apartOf_1 : decode cX11_apartOf 1 = .ok (.istore_n 3, 1) := by decide +kernel
theorem dX11_apartOf_2 : decode cX11_apartOf 2 = .ok (.iload_n 3, 1) := by decide +kernel
theorem dX11_apartOf_3 : decode cX11_apartOf 3 = .ok (.aload_n 0, 1) := by decide +kernel
theorem dX11_apartOf_4 : decode cX11_apartOf 4 = .ok (.iload_n 1, 1) := by decide +kernel
theorem dX11_apartOf_5 : decode cX11_apartOf 5 = .ok (.invokevirtual 333, 3) := by decide +kernel
theorem dX11_apartOf_8 : decode cX11_apartOf 8 = .ok (.if_icmp .ge 33, 3) := by decide +kernel
theorem dX11_apartOf_11 : decode cX11_apartOf 11 = .ok (.iload_n 3, 1) := by decide +kernel
theorem dX11_apartOf_12 : decode cX11_apartOf 12 = .ok (.aload_n 0, 1) := by decide +kernel
theorem dX11_apartOf_13 : decode cX11_apartOf 13 = .ok (.iload_n 2, 1) := by decide +kernel
theorem dX11_apartOf_14 : decode cX11_apartOf 14 = .ok (.invokevirtual 333, 3) := by decide +kernel
theorem dX11_apartOf_17 : decode cX11_apartOf 17 = .ok (.if_icmp .ge 24, 3) := by decide +kernel
theorem dX11_apartOf_20 : decode cX11_apartOf 20 = .ok (.aload_n 0, 1) := by decide +kernel
theorem dX11_apartOf_21 : decode cX11_apartOf 21 = .ok (.iload_n 1, 1) := by decide +kernel
theorem dX11_apartOf_22 : decode cX11_apartOf 22 = .ok (.iload_n 3, 1) := by decide +kernel
theorem dX11_apartOf_23 : decode cX11_apartOf 23 = .ok (.invokevirtual 348, 3) := by decide +kernel
theorem dX11_apartOf_26 : decode cX11_apartOf 26 = .ok (.aload_n 0, 1) := by decide +kernel
theorem dX11_apartOf_27 : decode cX11_apartOf 27 = .ok (.iload_n 2, 1) := by decide +kernel
theorem dX11_apartOf_28 : decode cX11_apartOf 28 = .ok (.iload_n 3, 1) := by decide +kernel
theorem dX11_apartOf_29 : decode cX11_apartOf 29 = .ok (.invokevirtual 348, 3) := by decide +kernel
theorem dX11_apartOf_32 : decode cX11_apartOf 32 = .ok (.if_icmp .ne 9, 3) := by decide +kernel
theorem dX11_apartOf_35 : decode cX11_apartOf 35 = .ok (.iinc 3 1, 3) := by decide +kernel
theorem dX11_apartOf_38 : decode cX11_apartOf 38 = .ok (.goto (-36), 3) := by decide +kernel
theorem dX11_apartOf_41 : decode cX11_apartOf 41 = .ok (.iload_n 3, 1) := by decide +kernel
theorem dX11_apartOf_42 : decode cX11_apartOf 42 = .ok (.aload_n 0, 1) := by decide +kernel
theorem dX11_apartOf_43 : decode cX11_apartOf 43 = .ok (.iload_n 1, 1) := by decide +kernel
theorem dX11_apartOf_44 : decode cX11_apartOf 44 = .ok (.invokevirtual 333, 3) := by decide +kernel
theorem dX11_apartOf_47 : decode cX11_apartOf 47 = .ok (.if_icmp .ne 16, 3) := by decide +kernel
theorem dX11_apartOf_50 : decode cX11_apartOf 50 = .ok (.iload_n 3, 1) := by decide +kernel
theorem dX11_apartOf_51 : decode cX11_apartOf 51 = .ok (.aload_n 0, 1) := by decide +kernel
theorem dX11_apartOf_52 : decode cX11_apartOf 52 = .ok (.iload_n 2, 1) := by decide +kernel
theorem dX11_apartOf_53 : decode cX11_apartOf 53 = .ok (.invokevirtual 333, 3) := by decide +kernel
theorem dX11_apartOf_56 : decode cX11_apartOf 56 = .ok (.if_icmp .ne 7, 3) := by decide +kernel
theorem dX11_apartOf_59 : decode cX11_apartOf 59 = .ok (.iconst (-1), 1) := by decide +kernel
theorem dX11_apartOf_60 : decode cX11_apartOf 60 = .ok (.goto 4, 3) := by decide +kernel
theorem dX11_apartOf_63 : decode cX11_apartOf 63 = .ok (.iload_n 3, 1) := by decide +kernel
theorem dX11_apartOf_64 : decode cX11_apartOf 64 = .ok (.ireturn, 1) := by decide +kernel
theorem dX11_apart_0 : decode cX11_apart 0 = .ok (.aload_n 0, 1) := by decide +kernel
theorem dX11_apart_1 : decode cX11_apart 1 = .ok (.iconst 0, 1) := by decide +kernel
theorem dX11_apart_2 : decode cX11_apart 2 = .ok (.putfield 94, 3) := by decide +kernel
theorem dX11_apart_5 : decode cX11_apart 5 = .ok (.aload_n 0, 1) := by decide +kernel
theorem dX11_apart_6 : decode cX11_apart 6 = .ok (.iconst 0, 1) := by decide +kernel
theorem dX11_apart_7 : decode cX11_apart 7 = .ok (.putfield 97, 3) := by decide +kernel
theorem dX11_apart_10 : decode cX11_apart 10 = .ok (.aload_n 0, 1) := by decide +kernel
theorem dX11_apart_11 : decode cX11_apart 11 = .ok (.iload_n 1, 1) := by decide +kernel
theorem dX11_apart_12 : decode cX11_apart 12 = .ok (.invokevirtual 342, 3) := by decide +kernel
theorem dX11_apart_15 : decode cX11_apart 15 = .ok (.ifCond .eq 11, 3) := by decide +kernel
theorem dX11_apart_18 : decode cX11_apart 18 = .ok (.aload_n 0, 1) := by decide +kernel
theorem dX11_apart_19 : decode cX11_apart 19 = .ok (.iload_n 2, 1) := by decide +kernel
theorem dX11_apart_20 : decode cX11_apart 20 = .ok (.invokevirtual 342, 3) := by decide +kernel
theorem dX11_apart_23 : decode cX11_apart 23 = .ok (.ifCond .ne 9, 3) := by decide +kernel
theorem dX11_apart_26 : decode cX11_apart 26 = .ok (.aload_n 0, 1) := by decide +kernel
theorem dX11_apart_27 : decode cX11_apart 27 = .ok (.iconst 2, 1) := by decide +kernel
theorem dX11_apart_28 : decode cX11_apart 28 = .ok (.invokevirtual 336, 3) := by decide +kernel
theorem dX11_apart_31 : decode cX11_apart 31 = .ok (.ireturn, 1) := by decide +kernel
theorem dX11_apart_32 : decode cX11_apart 32 = .ok (.iload_n 1, 1) := by decide +kernel
theorem dX11_apart_33 : decode cX11_apart 33 = .ok (.iload_n 2, 1) := by decide +kernel
theorem dX11_apart_34 : decode cX11_apart 34 = .ok (.if_icmp .ne 9, 3) := by decide +kernel
theorem dX11_apart_37 : decode cX11_apart 37 = .ok (.aload_n 0, 1) := by decide +kernel
theorem dX11_apart_38 : decode cX11_apart 38 = .ok (.iconst 5, 1) := by decide +kernel
theorem dX11_apart_39 : decode cX11_apart 39 = .ok (.invokevirtual 336, 3) := by decide +kernel
theorem dX11_apart_42 : decode cX11_apart 42 = .ok (.ireturn, 1) := by decide +kernel
theorem dX11_apart_43 : decode cX11_apart 43 = .ok (.aload_n 0, 1) := by decide +kernel
theorem dX11_apart_44 : decode cX11_apart 44 = .ok (.iload_n 1, 1) := by decide +kernel
theorem dX11_apart_45 : decode cX11_apart 45 = .ok (.iload_n 2, 1) := by decide +kernel
theorem dX11_apart_46 : decode cX11_apart 46 = .ok (.invokevirtual 411, 3) := by decide +kernel
theorem dX11_apart_49 : decode cX11_apart 49 = .ok (.istore_n 3, 1) := by decide +kernel
theorem dX11_apart_50 : decode cX11_apart 50 = .ok (.iload_n 3, 1) := by decide +kernel
theorem dX11_apart_51 : decode cX11_apart 51 = .ok (.ifCond .ge 12, 3) := by decide +kernel
theorem dX11_apart_54 : decode cX11_apart 54 = .ok (.aload_n 0, 1) := by decide +kernel
theorem dX11_apart_55 : decode cX11_apart 55 = .ok (.bipush 8, 2) := by decide +kernel
theorem dX11_apart_57 : decode cX11_apart 57 = .ok (.invokevirtual 336, 3) := by decide +kernel
theorem dX11_apart_60 : decode cX11_apart 60 = .ok (.goto 4, 3) := by decide +kernel
theorem dX11_apart_63 : decode cX11_apart 63 = .ok (.iload_n 3, 1) := by decide +kernel
theorem dX11_apart_64 : decode cX11_apart 64 = .ok (.ireturn, 1) := by decide +kernel
theorem dX11_behind_0 : decode cX11_behind 0 = .ok (.aload_n 0, 1) := by decide +kernel
theorem dX11_behind_1 : decode cX11_behind 1 = .ok (.iconst 0, 1) := by decide +kernel
theorem dX11_behind_2 : decode cX11_behind 2 = .ok (.putfield 94, 3) := by decide +kernel
theorem dX11_behind_5 : decode cX11_behind 5 = .ok (.aload_n 0, 1) := by decide +kernel
theorem dX11_behind_6 : decode cX11_behind 6 = .ok (.iconst 0, 1) := by decide +kernel
theorem dX11_behind_7 : decode cX11_behind 7 = .ok (.putfield 97, 3) := by decide +kernel
theorem dX11_behind_10 : decode cX11_behind 10 = .ok (.aload_n 0, 1) := by decide +kernel
theorem dX11_behind_11 : decode cX11_behind 11 = .ok (.iload_n 1, 1) := by decide +kernel
theorem dX11_behind_12 : decode cX11_behind 12 = .ok (.invokevirtual 342, 3) := by decide +kernel
theorem dX11_behind_15 : decode cX11_behind 15 = .ok (.ifCond .eq 11, 3) := by decide +kernel
theorem dX11_behind_18 : decode cX11_behind 18 = .ok (.aload_n 0, 1) := by decide +kernel
theorem dX11_behind_19 : decode cX11_behind 19 = .ok (.iload_n 2, 1) := by decide +kernel
theorem dX11_behind_20 : decode cX11_behind 20 = .ok (.invokevirtual 342, 3) := by decide +kernel
theorem dX11_behind_23 : decode cX11_behind 23 = .ok (.ifCond .ne 9, 3) := by decide +kernel
theorem dX11_behind_26 : decode cX11_behind 26 = .ok (.aload_n 0, 1) := by decide +kernel
theorem dX11_behind_27 : decode cX11_behind 27 = .ok (.iconst 2, 1) := by decide +kernel
theorem dX11_behind_28 : decode cX11_behind 28 = .ok (.invokevirtual 336, 3) := by decide +kernel
theorem dX11_behind_31 : decode cX11_behind 31 = .ok (.ireturn, 1) := by decide +kernel
theorem dX11_behind_32 : decode cX11_behind 32 = .ok (.iload_n 1, 1) := by decide +kernel
theorem dX11_behind_33 : decode cX11_behind 33 = .ok (.iload_n 2, 1) := by decide +kernel
theorem dX11_behind_34 : decode cX11_behind 34 = .ok (.if_icmp .ne 9, 3) := by decide +kernel
theorem dX11_behind_37 : decode cX11_behind 37 = .ok (.aload_n 0, 1) := by decide +kernel
theorem dX11_behind_38 : decode cX11_behind 38 = .ok (.iconst 5, 1) := by decide +kernel
theorem dX11_behind_39 : decode cX11_behind 39 = .ok (.invokevirtual 336, 3) := by decide +kernel
theorem dX11_behind_42 : decode cX11_behind 42 = .ok (.ireturn, 1) := by decide +kernel
theorem dX11_behind_43 : decode cX11_behind 43 = .ok (.aload_n 0, 1) := by decide +kernel
theorem dX11_behind_44 : decode cX11_behind 44 = .ok (.iload_n 1, 1) := by decide +kernel
theorem dX11_behind_45 : decode cX11_behind 45 = .ok (.iload_n 2, 1) := by decide +kernel
theorem dX11_behind_46 : decode cX11_behind 46 = .ok (.invokevirtual 411, 3) := by decide +kernel
theorem dX11_behind_49 : decode cX11_behind 49 = .ok (.ifCond .lt 10, 3) := by decide +kernel
theorem dX11_behind_52 : decode cX11_behind 52 = .ok (.aload_n 0, 1) := by decide +kernel
theorem dX11_behind_53 : decode cX11_behind 53 = .ok (.bipush 9, 2) := by decide +kernel
theorem dX11_behind_55 : decode cX11_behind 55 = .ok (.invokevirtual 336, 3) := by decide +kernel
theorem dX11_behind_58 : decode cX11_behind 58 = .ok (.ireturn, 1) := by decide +kernel
theorem dX11_behind_59 : decode cX11_behind 59 = .ok (.iconst 0, 1) := by decide +kernel
theorem dX11_behind_60 : decode cX11_behind 60 = .ok (.istore_n 3, 1) := by decide +kernel
theorem dX11_behind_61 : decode cX11_behind 61 = .ok (.iload_n 3, 1) := by decide +kernel
theorem dX11_behind_62 : decode cX11_behind 62 = .ok (.aload_n 0, 1) := by decide +kernel
theorem dX11_behind_63 : decode cX11_behind 63 = .ok (.iload_n 1, 1) := by decide +kernel
theorem dX11_behind_64 : decode cX11_behind 64 = .ok (.invokevirtual 333, 3) := by decide +kernel
theorem dX11_behind_67 : decode cX11_behind 67 = .ok (.if_icmp .ge 26, 3) := by decide +kernel
theorem dX11_behind_70 : decode cX11_behind 70 = .ok (.aload_n 0, 1) := by decide +kernel
theorem dX11_behind_71 : decode cX11_behind 71 = .ok (.iload_n 1, 1) := by decide +kernel
theorem dX11_behind_72 : decode cX11_behind 72 = .ok (.iload_n 3, 1) := by decide +kernel
theorem dX11_behind_73 : decode cX11_behind 73 = .ok (.invokevirtual 330, 3) := by decide +kernel
theorem dX11_behind_76 : decode cX11_behind 76 = .ok (.aload_n 0, 1) := by decide +kernel
theorem dX11_behind_77 : decode cX11_behind 77 = .ok (.iload_n 2, 1) := by decide +kernel
theorem dX11_behind_78 : decode cX11_behind 78 = .ok (.iload_n 3, 1) := by decide +kernel
theorem dX11_behind_79 : decode cX11_behind 79 = .ok (.invokevirtual 330, 3) := by decide +kernel
theorem dX11_behind_82 : decode cX11_behind 82 = .ok (.if_icmp .eq 5, 3) := by decide +kernel
theorem dX11_behind_85 : decode cX11_behind 85 = .ok (.iload_n 3, 1) := by decide +kernel
theorem dX11_behind_86 : decode cX11_behind 86 = .ok (.ireturn, 1) := by decide +kernel
theorem dX11_behind_87 : decode cX11_behind 87 = .ok (.iinc 3 1, 3) := by decide +kernel
theorem dX11_behind_90 : decode cX11_behind 90 = .ok (.goto (-29), 3) := by decide +kernel
theorem dX11_behind_93 : decode cX11_behind 93 = .ok (.aload_n 0, 1) := by decide +kernel
theorem dX11_behind_94 : decode cX11_behind 94 = .ok (.bipush 8, 2) := by decide +kernel
theorem dX11_behind_96 : decode cX11_behind 96 = .ok (.invokevirtual 336, 3) := by decide +kernel
theorem dX11_behind_99 : decode cX11_behind 99 = .ok (.ireturn, 1) := by decide +kernel
theorem dX11_life_0 : decode cX11_life 0 = .ok (.aload_n 0, 1) := by decide +kernel
theorem dX11_life_1 : decode cX11_life 1 = .ok (.iconst 0, 1) := by decide +kernel
theorem dX11_life_2 : decode cX11_life 2 = .ok (.putfield 94, 3) := by decide +kernel
theorem dX11_life_5 : decode cX11_life 5 = .ok (.aload_n 0, 1) := by decide +kernel
theorem dX11_life_6 : decode cX11_life 6 = .ok (.iconst 0, 1) := by decide +kernel
theorem dX11_life_7 : decode cX11_life 7 = .ok (.putfield 97, 3) := by decide +kernel
theorem dX11_life_10 : decode cX11_life 10 = .ok (.aload_n 0, 1) := by decide +kernel
theorem dX11_life_11 : decode cX11_life 11 = .ok (.iload_n 1, 1) := by decide +kernel
theorem dX11_life_12 : decode cX11_life 12 = .ok (.invokevirtual 351, 3) := by decide +kernel
theorem dX11_life_15 : decode cX11_life 15 = .ok (.ifCond .ne 9, 3) := by decide +kernel
theorem dX11_life_18 : decode cX11_life 18 = .ok (.aload_n 0, 1) := by decide +kernel
theorem dX11_life_19 : decode cX11_life 19 = .ok (.iconst 1, 1) := by decide +kernel
theorem dX11_life_20 : decode cX11_life 20 = .ok (.invokevirtual 336, 3) := by decide +kernel
theorem dX11_life_23 : decode cX11_life 23 = .ok (.ireturn, 1) := by decide +kernel
theorem dX11_life_24 : decode cX11_life 24 = .ok (.aload_n 0, 1) := by decide +kernel
theorem dX11_life_25 : decode cX11_life 25 = .ok (.getfield 17, 3) := by decide +kernel
theorem dX11_life_28 : decode cX11_life 28 = .ok (.iload_n 1, 1) := by decide +kernel
theorem dX11_life_29 : decode cX11_life 29 = .ok (.iaload, 1) := by decide +kernel
theorem dX11_life_30 : decode cX11_life 30 = .ok (.ifCond .ge 9, 3) := by decide +kernel
theorem dX11_life_33 : decode cX11_life 33 = .ok (.aload_n 0, 1) := by decide +kernel
theorem dX11_life_34 : decode cX11_life 34 = .ok (.iconst 3, 1) := by decide +kernel
theorem dX11_life_35 : decode cX11_life 35 = .ok (.invokevirtual 336, 3) := by decide +kernel
theorem dX11_life_38 : decode cX11_life 38 = .ok (.ireturn, 1) := by decide +kernel
theorem dX11_life_39 : decode cX11_life 39 = .ok (.aload_n 0, 1) := by decide +kernel
theorem dX11_life_40 : decode cX11_life 40 = .ok (.getfield 17, 3) := by decide +kernel
theorem dX11_life_43 : decode cX11_life 43 = .ok (.iload_n 1, 1) := by decide +kernel
theorem dX11_life_44 : decode cX11_life 44 = .ok (.iaload, 1) := by decide +kernel
theorem dX11_life_45 : decode cX11_life 45 = .ok (.iload_n 2, 1) := by decide +kernel
theorem dX11_life_46 : decode cX11_life 46 = .ok (.if_icmp .ge 9, 3) := by decide +kernel
theorem dX11_life_49 : decode cX11_life 49 = .ok (.aload_n 0, 1) := by decide +kernel
theorem dX11_life_50 : decode cX11_life 50 = .ok (.iconst 4, 1) := by decide +kernel
theorem dX11_life_51 : decode cX11_life 51 = .ok (.invokevirtual 336, 3) := by decide +kernel
theorem dX11_life_54 : decode cX11_life 54 = .ok (.ireturn, 1) := by decide +kernel
theorem dX11_life_55 : decode cX11_life 55 = .ok (.iload_n 2, 1) := by decide +kernel
theorem dX11_life_56 : decode cX11_life 56 = .ok (.i2l, 1) := by decide +kernel
theorem dX11_life_57 : decode cX11_life 57 = .ok (.lconst 1, 1) := by decide +kernel
theorem dX11_life_58 : decode cX11_life 58 = .ok (.ldc2_w 414, 3) := by decide +kernel
theorem dX11_life_61 : decode cX11_life 61 = .ok (.invokestatic 129, 3) := by decide +kernel
theorem dX11_life_64 : decode cX11_life 64 = .ok (.ifCond .ne 9, 3) := by decide +kernel
theorem dX11_life_67 : decode cX11_life 67 = .ok (.aload_n 0, 1) := by decide +kernel
theorem dX11_life_68 : decode cX11_life 68 = .ok (.iconst 5, 1) := by decide +kernel
theorem dX11_life_69 : decode cX11_life 69 = .ok (.invokevirtual 336, 3) := by decide +kernel
theorem dX11_life_72 : decode cX11_life 72 = .ok (.ireturn, 1) := by decide +kernel
theorem dX11_life_73 : decode cX11_life 73 = .ok (.iconst 0, 1) := by decide +kernel
theorem dX11_life_74 : decode cX11_life 74 = .ok (.istore_n 3, 1) := by decide +kernel
theorem dX11_life_75 : decode cX11_life 75 = .ok (.iload_n 3, 1) := by decide +kernel
theorem dX11_life_76 : decode cX11_life 76 = .ok (.iload_n 2, 1) := by decide +kernel
theorem dX11_life_77 : decode cX11_life 77 = .ok (.if_icmp .ge 37, 3) := by decide +kernel
theorem dX11_life_80 : decode cX11_life 80 = .ok (.aload_n 0, 1) := by decide +kernel
theorem dX11_life_81 : decode cX11_life 81 = .ok (.iload_n 1, 1) := by decide +kernel
theorem dX11_life_82 : decode cX11_life 82 = .ok (.iload_n 3, 1) := by decide +kernel
theorem dX11_life_83 : decode cX11_life 83 = .ok (.invokevirtual 416, 3) := by decide +kernel
theorem dX11_life_86 : decode cX11_life 86 = .ok (.lconst 0, 1) := by decide +kernel
theorem dX11_life_87 : decode cX11_life 87 = .ok (.aload_n 0, 1) := by decide +kernel
theorem dX11_life_88 : decode cX11_life 88 = .ok (.getfield 35, 3) := by decide +kernel
theorem dX11_life_91 : decode cX11_life 91 = .ok (.iconst 1, 1) := by decide +kernel
theorem dX11_life_92 : decode cX11_life 92 = .ok (.iaload, 1) := by decide +kernel
theorem dX11_life_93 : decode cX11_life 93 = .ok (.iconst 1, 1) := by decide +kernel
theorem dX11_life_94 : decode cX11_life 94 = .ok (.isub, 1) := by decide +kernel
theorem dX11_life_95 : decode cX11_life 95 = .ok (.i2l, 1) := by decide +kernel
theorem dX11_life_96 : decode cX11_life 96 = .ok (.invokestatic 129, 3) := by decide +kernel
theorem dX11_life_99 : decode cX11_life 99 = .ok (.ifCond .ne 9, 3) := by decide +kernel
theorem dX11_life_102 : decode cX11_life 102 = .ok (.aload_n 0, 1) := by decide +kernel
theorem dX11_life_103 : decode cX11_life 103 = .ok (.iconst 2, 1) := by decide +kernel
theorem dX11_life_104 : decode cX11_life 104 = .ok (.invokevirtual 336, 3) := by decide +kernel
theorem dX11_life_107 : decode cX11_life 107 = .ok (.ireturn, 1) := by decide +kernel
theorem dX11_life_108 : decode cX11_life 108 = .ok (.iinc 3 1, 3) := by decide +kernel
theorem dX11_life_111 : decode cX11_life 111 = .ok (.goto (-36), 3) := by decide +kernel
theorem dX11_life_114 : decode cX11_life 114 = .ok (.iconst 0, 1) := by decide +kernel
theorem dX11_life_115 : decode cX11_life 115 = .ok (.istore_n 3, 1) := by decide +kernel
theorem dX11_life_116 : decode cX11_life 116 = .ok (.iconst 0, 1) := by decide +kernel
theorem dX11_life_117 : decode cX11_life 117 = .ok (.istore 4, 2) := by decide +kernel
theorem dX11_life_119 : decode cX11_life 119 = .ok (.iload 4, 2) := by decide +kernel
theorem dX11_life_121 : decode cX11_life 121 = .ok (.iload_n 2, 1) := by decide +kernel
theorem dX11_life_122 : decode cX11_life 122 = .ok (.if_icmp .ge 39, 3) := by decide +kernel
theorem dX11_life_125 : decode cX11_life 125 = .ok (.aload_n 0, 1) := by decide +kernel
theorem dX11_life_126 : decode cX11_life 126 = .ok (.iload_n 1, 1) := by decide +kernel
theorem dX11_life_127 : decode cX11_life 127 = .ok (.iload 4, 2) := by decide +kernel
theorem dX11_life_129 : decode cX11_life 129 = .ok (.invokevirtual 416, 3) := by decide +kernel
theorem dX11_life_132 : decode cX11_life 132 = .ok (.l2i, 1) := by decide +kernel
theorem dX11_life_133 : decode cX11_life 133 = .ok (.istore 5, 2) := by decide +kernel
theorem dX11_life_135 : decode cX11_life 135 = .ok (.aload_n 0, 1) := by decide +kernel
theorem dX11_life_136 : decode cX11_life 136 = .ok (.iload_n 3, 1) := by decide +kernel
theorem dX11_life_137 : decode cX11_life 137 = .ok (.iload 5, 2) := by decide +kernel
theorem dX11_life_139 : decode cX11_life 139 = .ok (.invokevirtual 354, 3) := by decide +kernel
theorem dX11_life_142 : decode cX11_life 142 = .ok (.ifCond .ne 6, 3) := by decide +kernel
theorem dX11_life_145 : decode cX11_life 145 = .ok (.iload 4, 2) := by decide +kernel
theorem dX11_life_147 : decode cX11_life 147 = .ok (.ireturn, 1) := by decide +kernel
theorem dX11_life_148 : decode cX11_life 148 = .ok (.iload_n 3, 1) := by decide +kernel
theorem dX11_life_149 : decode cX11_life 149 = .ok (.iconst 1, 1) := by decide +kernel
theorem dX11_life_150 : decode cX11_life 150 = .ok (.iload 5, 2) := by decide +kernel
theorem dX11_life_152 : decode cX11_life 152 = .ok (.ishl, 1) := by decide +kernel
theorem dX11_life_153 : decode cX11_life 153 = .ok (.ior, 1) := by decide +kernel
theorem dX11_life_154 : decode cX11_life 154 = .ok (.istore_n 3, 1) := by decide +kernel
theorem dX11_life_155 : decode cX11_life 155 = .ok (.iinc 4 1, 3) := by decide +kernel
theorem dX11_life_158 : decode cX11_life 158 = .ok (.goto (-39), 3) := by decide +kernel
theorem dX11_life_161 : decode cX11_life 161 = .ok (.aload_n 0, 1) := by decide +kernel
theorem dX11_life_162 : decode cX11_life 162 = .ok (.bipush 8, 2) := by decide +kernel
theorem dX11_life_164 : decode cX11_life 164 = .ok (.invokevirtual 336, 3) := by decide +kernel
theorem dX11_life_167 : decode cX11_life 167 = .ok (.ireturn, 1) := by decide +kernel
theorem dX11_fill_0 : decode cX11_fill 0 = .ok (.iconst 0, 1) := by decide +kernel
theorem dX11_fill_1 : decode cX11_fill 1 = .ok (.istore_n 1, 1) := by decide +kernel
theorem dX11_fill_2 : decode cX11_fill 2 = .ok (.iload_n 1, 1) := by decide +kernel
theorem dX11_fill_3 : decode cX11_fill 3 = .ok (.iconst 1, 1) := by decide +kernel
theorem dX11_fill_4 : decode cX11_fill 4 = .ok (.aload_n 0, 1) := by decide +kernel
theorem dX11_fill_5 : decode cX11_fill 5 = .ok (.getfield 35, 3) := by decide +kernel
theorem dX11_fill_8 : decode cX11_fill 8 = .ok (.iconst 1, 1) := by decide +kernel
theorem dX11_fill_9 : decode cX11_fill 9 = .ok (.iaload, 1) := by decide +kernel
theorem dX11_fill_10 : decode cX11_fill 10 = .ok (.ishl, 1) := by decide +kernel
theorem dX11_fill_11 : decode cX11_fill 11 = .ok (.if_icmp .ge 231, 3) := by decide +kernel
theorem dX11_fill_14 : decode cX11_fill 14 = .ok (.aload_n 0, 1) := by decide +kernel
theorem dX11_fill_15 : decode cX11_fill 15 = .ok (.getfield 47, 3) := by decide +kernel
theorem dX11_fill_18 : decode cX11_fill 18 = .ok (.iload_n 1, 1) := by decide +kernel
theorem dX11_fill_19 : decode cX11_fill 19 = .ok (.iload_n 1, 1) := by decide +kernel
theorem dX11_fill_20 : decode cX11_fill 20 = .ok (.ifCond .ne 7, 3) := by decide +kernel
theorem dX11_fill_23 : decode cX11_fill 23 = .ok (.lconst 1, 1) := by decide +kernel
theorem dX11_fill_24 : decode cX11_fill 24 = .ok (.goto 4, 3) := by decide +kernel
theorem dX11_fill_27 : decode cX11_fill 27 = .ok (.lconst 0, 1) := by decide +kernel
theorem dX11_fill_28 : decode cX11_fill 28 = .ok (.lastore, 1) := by decide +kernel
theorem dX11_fill_29 : decode cX11_fill 29 = .ok (.aload_n 0, 1) := by decide +kernel
theorem dX11_fill_30 : decode cX11_fill 30 = .ok (.getfield 50, 3) := by decide +kernel
theorem dX11_fill_33 : decode cX11_fill 33 = .ok (.iload_n 1, 1) := by decide +kernel
theorem dX11_fill_34 : decode cX11_fill 34 = .ok (.iload_n 1, 1) := by decide +kernel
theorem dX11_fill_35 : decode cX11_fill 35 = .ok (.ifCond .ne 7, 3) := by decide +kernel
theorem dX11_fill_38 : decode cX11_fill 38 = .ok (.iconst 0, 1) := by decide +kernel
theorem dX11_fill_39 : decode cX11_fill 39 = .ok (.goto 6, 3) := by decide +kernel
theorem dX11_fill_42 : decode cX11_fill 42 = .ok (.ldc_w 420, 3) := by decide +kernel
theorem dX11_fill_45 : decode cX11_fill 45 = .ok (.iastore, 1) := by decide +kernel
theorem dX11_fill_46 : decode cX11_fill 46 = .ok (.aload_n 0, 1) := by decide +kernel
theorem dX11_fill_47 : decode cX11_fill 47 = .ok (.getfield 53, 3) := by decide +kernel
theorem dX11_fill_50 : decode cX11_fill 50 = .ok (.iload_n 1, 1) := by decide +kernel
theorem dX11_fill_51 : decode cX11_fill 51 = .ok (.iload_n 1, 1) := by decide +kernel
theorem dX11_fill_52 : decode cX11_fill 52 = .ok (.ifCond .ne 7, 3) := by decide +kernel
theorem dX11_fill_55 : decode cX11_fill 55 = .ok (.iconst 0, 1) := by decide +kernel
theorem dX11_fill_56 : decode cX11_fill 56 = .ok (.goto 6, 3) := by decide +kernel
theorem dX11_fill_59 : decode cX11_fill 59 = .ok (.ldc_w 420, 3) := by decide +kernel
theorem dX11_fill_62 : decode cX11_fill 62 = .ok (.iastore, 1) := by decide +kernel
theorem dX11_fill_63 : decode cX11_fill 63 = .ok (.iload_n 1, 1) := by decide +kernel
theorem dX11_fill_64 : decode cX11_fill 64 = .ok (.invokestatic 381, 3) := by decide +kernel
theorem dX11_fill_67 : decode cX11_fill 67 = .ok (.istore_n 2, 1) := by decide +kernel
theorem dX11_fill_68 : decode cX11_fill 68 = .ok (.iload_n 2, 1) := by decide +kernel
theorem dX11_fill_69 : decode cX11_fill 69 = .ok (.aload_n 0, 1) := by decide +kernel
theorem dX11_fill_70 : decode cX11_fill 70 = .ok (.getfield 384, 3) := by decide +kernel
theorem dX11_fill_73 : decode cX11_fill 73 = .ok (.if_icmp .le 6, 3) := by decide +kernel
theorem dX11_fill_76 : decode cX11_fill 76 = .ok (.goto 160, 3) := by decide +kernel
theorem dX11_fill_79 : decode cX11_fill 79 = .ok (.iconst 0, 1) := by decide +kernel
theorem dX11_fill_80 : decode cX11_fill 80 = .ok (.istore_n 3, 1) := by decide +kernel
theorem dX11_fill_81 : decode cX11_fill 81 = .ok (.iload_n 3, 1) := by decide +kernel
theorem dX11_fill_82 : decode cX11_fill 82 = .ok (.aload_n 0, 1) := by decide +kernel
theorem dX11_fill_83 : decode cX11_fill 83 = .ok (.getfield 35, 3) := by decide +kernel
theorem dX11_fill_86 : decode cX11_fill 86 = .ok (.iconst 1, 1) := by decide +kernel
theorem dX11_fill_87 : decode cX11_fill 87 = .ok (.iaload, 1) := by decide +kernel
theorem dX11_fill_88 : decode cX11_fill 88 = .ok (.if_icmp .ge 148, 3) := by decide +kernel
theorem dX11_fill_91 : decode cX11_fill 91 = .ok (.iload_n 1, 1) := by decide +kernel
theorem dX11_fill_92 : decode cX11_fill 92 = .ok (.iconst 1, 1) := by decide +kernel
theorem dX11_fill_93 : decode cX11_fill 93 = .ok (.iload_n 3, 1) := by decide +kernel
theorem dX11_fill_94 : decode cX11_fill 94 = .ok (.ishl, 1) := by decide +kernel
theorem dX11_fill_95 : decode cX11_fill 95 = .ok (.iconst (-1), 1) := by decide +kernel
theorem dX11_fill_96 : decode cX11_fill 96 = .ok (.ixor, 1) := by decide +kernel
theorem dX11_fill_97 : decode cX11_fill 97 = .ok (.iand, 1) := by decide +kernel
theorem dX11_fill_98 : decode cX11_fill 98 = .ok (.istore 4, 2) := by decide +kernel
theorem dX11_fill_100 : decode cX11_fill 100 = .ok (.iload 4, 2) := by decide +kernel
theorem dX11_fill_102 : decode cX11_fill 102 = .ok (.iload_n 1, 1) := by decide +kernel
theorem dX11_fill_103 : decode cX11_fill 103 = .ok (.if_icmp .eq 127, 3) := by decide +kernel
theorem dX11_fill_106 : decode cX11_fill 106 = .ok (.aload_n 0, 1) := by decide +kernel
theorem dX11_fill_107 : decode cX11_fill 107 = .ok (.getfield 47, 3) := by decide +kernel
theorem dX11_fill_110 : decode cX11_fill 110 = .ok (.iload 4, 2) := by decide +kernel
theorem dX11_fill_112 : decode cX11_fill 112 = .ok (.laload, 1) := by decide +kernel
theorem dX11_fill_113 : decode cX11_fill 113 = .ok (.lconst 0, 1) := by decide +kernel
theorem dX11_fill_114 : decode cX11_fill 114 = .ok (.lcmp, 1) := by decide +kernel
theorem dX11_fill_115 : decode cX11_fill 115 = .ok (.ifCond .eq 115, 3) := by decide +kernel
theorem dX11_fill_118 : decode cX11_fill 118 = .ok (.aload_n 0, 1) := by decide +kernel
theorem dX11_fill_119 : decode cX11_fill 119 = .ok (.getfield 35, 3) := by decide +kernel
theorem dX11_fill_122 : decode cX11_fill 122 = .ok (.iconst 4, 1) := by decide +kernel
theorem dX11_fill_123 : decode cX11_fill 123 = .ok (.iload_n 3, 1) := by decide +kernel
theorem dX11_fill_124 : decode cX11_fill 124 = .ok (.iadd, 1) := by decide +kernel
theorem dX11_fill_125 : decode cX11_fill 125 = .ok (.iaload, 1) := by decide +kernel
theorem dX11_fill_126 : decode cX11_fill 126 = .ok (.aload_n 0, 1) := by decide +kernel
theorem dX11_fill_127 : decode cX11_fill 127 = .ok (.getfield 44, 3) := by decide +kernel
theorem dX11_fill_130 : decode cX11_fill 130 = .ok (.iload_n 2, 1) := by decide +kernel
theorem dX11_fill_131 : decode cX11_fill 131 = .ok (.iconst 1, 1) := by decide +kernel
theorem dX11_fill_132 : decode cX11_fill 132 = .ok (.isub, 1) := by decide +kernel
theorem dX11_fill_133 : decode cX11_fill 133 = .ok (.iaload, 1) := by decide +kernel
theorem dX11_fill_134 : decode cX11_fill 134 = .ok (.if_icmp .ne 96, 3) := by decide +kernel
theorem dX11_fill_137 : decode cX11_fill 137 = .ok (.aload_n 0, 1) := by decide +kernel
theorem dX11_fill_138 : decode cX11_fill 138 = .ok (.iload 4, 2) := by decide +kernel
theorem dX11_fill_140 : decode cX11_fill 140 = .ok (.iload_n 3, 1) := by decide +kernel
theorem dX11_fill_141 : decode cX11_fill 141 = .ok (.invokevirtual 354, 3) := by decide +kernel
theorem dX11_fill_144 : decode cX11_fill 144 = .ok (.ifCond .ne 6, 3) := by decide +kernel
theorem dX11_fill_147 : decode cX11_fill 147 = .ok (.goto 83, 3) := by decide +kernel
theorem dX11_fill_150 : decode cX11_fill 150 = .ok (.aload_n 0, 1) := by decide +kernel
theorem dX11_fill_151 : decode cX11_fill 151 = .ok (.getfield 47, 3) := by decide +kernel
theorem dX11_fill_154 : decode cX11_fill 154 = .ok (.iload_n 1, 1) := by decide +kernel
theorem dX11_fill_155 : decode cX11_fill 155 = .ok (.dup2, 1) := by decide +kernel
theorem dX11_fill_156 : decode cX11_fill 156 = .ok (.laload, 1) := by decide +kernel
theorem dX11_fill_157 : decode cX11_fill 157 = .ok (.aload_n 0, 1) := by decide +kernel
theorem dX11_fill_158 : decode cX11_fill 158 = .ok (.getfield 47, 3) := by decide +kernel
theorem dX11_fill_161 : decode cX11_fill 161 = .ok (.iload 4, 2) := by decide +kernel
theorem dX11_fill_163 : decode cX11_fill 163 = .ok (.laload, 1) := by decide +kernel
theorem dX11_fill_164 : decode cX11_fill 164 = .ok (.ladd, 1) := by decide +kernel
theorem dX11_fill_165 : decode cX11_fill 165 = .ok (.lastore, 1) := by decide +kernel
theorem dX11_fill_166 : decode cX11_fill 166 = .ok (.aload_n 0, 1) := by decide +kernel
theorem dX11_fill_167 : decode cX11_fill 167 = .ok (.getfield 50, 3) := by decide +kernel
theorem dX11_fill_170 : decode cX11_fill 170 = .ok (.iload_n 1, 1) := by decide +kernel
theorem dX11_fill_171 : decode cX11_fill 171 = .ok (.aload_n 0, 1) := by decide +kernel
theorem dX11_fill_172 : decode cX11_fill 172 = .ok (.getfield 50, 3) := by decide +kernel
theorem dX11_fill_175 : decode cX11_fill 175 = .ok (.iload_n 1, 1) := by decide +kernel
theorem dX11_fill_176 : decode cX11_fill 176 = .ok (.iaload, 1) := by decide +kernel
