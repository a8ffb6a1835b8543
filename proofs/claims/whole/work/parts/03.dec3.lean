theorem dX11_init_0 : decode cX11_init 0 = .ok (.aload_n 0, 1) := by decide +kernel
theorem dX11_init_1 : decode cX11_init 1 = .ok (.invokespecial 1, 3) := by decide +kernel
theorem dX11_init_4 : decode cX11_init 4 = .ok (.aload_n 0, 1) := by decide +kernel
theorem dX11_init_5 : decode cX11_init 5 = .ok (.lconst 1, 1) := by decide +kernel
theorem dX11_init_6 : decode cX11_init 6 = .ok (.putfield 7, 3) := by decide +kernel
theorem dX11_init_9 : decode cX11_init 9 = .ok (.aload_n 0, 1) := by decide +kernel
theorem dX11_init_10 : decode cX11_init 10 = .ok (.iconst 4, 1) := by decide +kernel
theorem dX11_init_11 : decode cX11_init 11 = .ok (.newarray .int, 2) := by decide +kernel
theorem dX11_init_13 : decode cX11_init 13 = .ok (.putfield 13, 3) := by decide +kernel
theorem dX11_init_16 : decode cX11_init 16 = .ok (.aload_n 0, 1) := by decide +kernel
theorem dX11_init_17 : decode cX11_init 17 = .ok (.iconst 4, 1) := by decide +kernel
theorem dX11_init_18 : decode cX11_init 18 = .ok (.newarray .int, 2) := by decide +kernel
theorem dX11_init_20 : decode cX11_init 20 = .ok (.putfield 17, 3) := by decide +kernel
theorem dX11_init_23 : decode cX11_init 23 = .ok (.aload_n 0, 1) := by decide +kernel
theorem dX11_init_24 : decode cX11_init 24 = .ok (.sipush 240, 3) := by decide +kernel
theorem dX11_init_27 : decode cX11_init 27 = .ok (.newarray .long, 2) := by decide +kernel
theorem dX11_init_29 : decode cX11_init 29 = .ok (.putfield 20, 3) := by decide +kernel
theorem dX11_init_32 : decode cX11_init 32 = .ok (.aload_n 0, 1) := by decide +kernel
theorem dX11_init_33 : decode cX11_init 33 = .ok (.sipush 900, 3) := by decide +kernel
theorem dX11_init_36 : decode cX11_init 36 = .ok (.newarray .byte, 2) := by decide +kernel
theorem dX11_init_38 : decode cX11_init 38 = .ok (.putfield 24, 3) := by decide +kernel
theorem dX11_init_41 : decode cX11_init 41 = .ok (.aload_n 0, 1) := by decide +kernel
theorem dX11_init_42 : decode cX11_init 42 = .ok (.iconst (-1), 1) := by decide +kernel
theorem dX11_init_43 : decode cX11_init 43 = .ok (.putfield 28, 3) := by decide +kernel
theorem dX11_init_46 : decode cX11_init 46 = .ok (.aload_n 0, 1) := by decide +kernel
theorem dX11_init_47 : decode cX11_init 47 = .ok (.iconst (-1), 1) := by decide +kernel
theorem dX11_init_48 : decode cX11_init 48 = .ok (.putfield 32, 3) := by decide +kernel
theorem dX11_init_51 : decode cX11_init 51 = .ok (.aload_n 0, 1) := by decide +kernel
theorem dX11_init_52 : decode cX11_init 52 = .ok (.sipush 2050, 3) := by decide +kernel
theorem dX11_init_55 : decode cX11_init 55 = .ok (.newarray .int, 2) := by decide +kernel
theorem dX11_init_57 : decode cX11_init 57 = .ok (.putfield 35, 3) := by decide +kernel
theorem dX11_init_60 : decode cX11_init 60 = .ok (.aload_n 0, 1) := by decide +kernel
theorem dX11_init_61 : decode cX11_init 61 = .ok (.sipush 128, 3) := by decide +kernel
theorem dX11_init_64 : decode cX11_init 64 = .ok (.newarray .int, 2) := by decide +kernel
theorem dX11_init_66 : decode cX11_init 66 = .ok (.putfield 38, 3) := by decide +kernel
theorem dX11_init_69 : decode cX11_init 69 = .ok (.aload_n 0, 1) := by decide +kernel
theorem dX11_init_70 : decode cX11_init 70 = .ok (.bipush 100, 2) := by decide +kernel
theorem dX11_init_72 : decode cX11_init 72 = .ok (.newarray .long, 2) := by decide +kernel
theorem dX11_init_74 : decode cX11_init 74 = .ok (.putfield 41, 3) := by decide +kernel
theorem dX11_init_77 : decode cX11_init 77 = .ok (.aload_n 0, 1) := by decide +kernel
theorem dX11_init_78 : decode cX11_init 78 = .ok (.bipush 13, 2) := by decide +kernel
theorem dX11_init_80 : decode cX11_init 80 = .ok (.newarray .int, 2) := by decide +kernel
theorem dX11_init_82 : decode cX11_init 82 = .ok (.putfield 44, 3) := by decide +kernel
theorem dX11_init_85 : decode cX11_init 85 = .ok (.aload_n 0, 1) := by decide +kernel
theorem dX11_init_86 : decode cX11_init 86 = .ok (.sipush 4096, 3) := by decide +kernel
theorem dX11_init_89 : decode cX11_init 89 = .ok (.newarray .long, 2) := by decide +kernel
theorem dX11_init_91 : decode cX11_init 91 = .ok (.putfield 47, 3) := by decide +kernel
theorem dX11_init_94 : decode cX11_init 94 = .ok (.aload_n 0, 1) := by decide +kernel
theorem dX11_init_95 : decode cX11_init 95 = .ok (.sipush 4096, 3) := by decide +kernel
theorem dX11_init_98 : decode cX11_init 98 = .ok (.newarray .int, 2) := by decide +kernel
theorem dX11_init_100 : decode cX11_init 100 = .ok (.putfield 50, 3) := by decide +kernel
theorem dX11_init_103 : decode cX11_init 103 = .ok (.aload_n 0, 1) := by decide +kernel
theorem dX11_init_104 : decode cX11_init 104 = .ok (.sipush 4096, 3) := by decide +kernel
theorem dX11_init_107 : decode cX11_init 107 = .ok (.newarray .int, 2) := by decide +kernel
theorem dX11_init_109 : decode cX11_init 109 = .ok (.putfield 53, 3) := by decide +kernel
theorem dX11_init_112 : decode cX11_init 112 = .ok (.aload_n 0, 1) := by decide +kernel
theorem dX11_init_113 : decode cX11_init 113 = .ok (.bipush 12, 2) := by decide +kernel
theorem dX11_init_115 : decode cX11_init 115 = .ok (.newarray .int, 2) := by decide +kernel
theorem dX11_init_117 : decode cX11_init 117 = .ok (.putfield 56, 3) := by decide +kernel
theorem dX11_init_120 : decode cX11_init 120 = .ok (.aload_n 0, 1) := by decide +kernel
theorem dX11_init_121 : decode cX11_init 121 = .ok (.sipush 4096, 3) := by decide +kernel
theorem dX11_init_124 : decode cX11_init 124 = .ok (.newarray .boolean, 2) := by decide +kernel
theorem dX11_init_126 : decode cX11_init 126 = .ok (.putfield 59, 3) := by decide +kernel
theorem dX11_init_129 : decode cX11_init 129 = .ok (.aload_n 0, 1) := by decide +kernel
theorem dX11_init_130 : decode cX11_init 130 = .ok (.sipush 4096, 3) := by decide +kernel
theorem dX11_init_133 : decode cX11_init 133 = .ok (.newarray .long, 2) := by decide +kernel
theorem dX11_init_135 : decode cX11_init 135 = .ok (.putfield 63, 3) := by decide +kernel
theorem dX11_init_138 : decode cX11_init 138 = .ok (.aload_n 0, 1) := by decide +kernel
theorem dX11_init_139 : decode cX11_init 139 = .ok (.ldc 66, 2) := by decide +kernel
theorem dX11_init_141 : decode cX11_init 141 = .ok (.newarray .long, 2) := by decide +kernel
theorem dX11_init_143 : decode cX11_init 143 = .ok (.putfield 67, 3) := by decide +kernel
theorem dX11_init_146 : decode cX11_init 146 = .ok (.aload_n 0, 1) := by decide +kernel
theorem dX11_init_147 : decode cX11_init 147 = .ok (.iconst 4, 1) := by decide +kernel
theorem dX11_init_148 : decode cX11_init 148 = .ok (.newarray .int, 2) := by decide +kernel
theorem dX11_init_150 : decode cX11_init 150 = .ok (.putfield 70, 3) := by decide +kernel
theorem dX11_init_153 : decode cX11_init 153 = .ok (.aload_n 0, 1) := by decide +kernel
theorem dX11_init_154 : decode cX11_init 154 = .ok (.iconst 4, 1) := by decide +kernel
theorem dX11_init_155 : decode cX11_init 155 = .ok (.newarray .int, 2) := by decide +kernel
theorem dX11_init_157 : decode cX11_init 157 = .ok (.putfield 73, 3) := by decide +kernel
theorem dX11_init_160 : decode cX11_init 160 = .ok (.aload_n 0, 1) := by decide +kernel
theorem dX11_init_161 : decode cX11_init 161 = .ok (.iconst 4, 1) := by decide +kernel
theorem dX11_init_162 : decode cX11_init 162 = .ok (.newarray .int, 2) := by decide +kernel
theorem dX11_init_164 : decode cX11_init 164 = .ok (.putfield 76, 3) := by decide +kernel
theorem dX11_init_167 : decode cX11_init 167 = .ok (.aload_n 0, 1) := by decide +kernel
theorem dX11_init_168 : decode cX11_init 168 = .ok (.bipush 48, 2) := by decide +kernel
theorem dX11_init_170 : decode cX11_init 170 = .ok (.newarray .int, 2) := by decide +kernel
theorem dX11_init_172 : decode cX11_init 172 = .ok (.putfield 79, 3) := by decide +kernel
theorem dX11_init_175 : decode cX11_init 175 = .ok (.aload_n 0, 1) := by decide +kernel
theorem dX11_init_176 : decode cX11_init 176 = .ok (.iconst 4, 1) := by decide +kernel
theorem dX11_init_177 : decode cX11_init 177 = .ok (.newarray .int, 2) := by decide +kernel
theorem dX11_init_179 : decode cX11_init 179 = .ok (.putfield 82, 3) := by decide +kernel
theorem dX11_init_182 : decode cX11_init 182 = .ok (.aload_n 0, 1) := by decide +kernel
theorem dX11_init_183 : decode cX11_init 183 = .ok (.iconst 4, 1) := by decide +kernel
theorem dX11_init_184 : decode cX11_init 184 = .ok (.newarray .int, 2) := by decide +kernel
theorem dX11_init_186 : decode cX11_init 186 = .ok (.putfield 85, 3) := by decide +kernel
theorem dX11_init_189 : decode cX11_init 189 = .ok (.aload_n 0, 1) := by decide +kernel
theorem dX11_init_190 : decode cX11_init 190 = .ok (.iconst (-1), 1) := by decide +kernel
theorem dX11_init_191 : decode cX11_init 191 = .ok (.putfield 88, 3) := by decide +kernel
theorem dX11_init_194 : decode cX11_init 194 = .ok (.aload_n 0, 1) := by decide +kernel
theorem dX11_init_195 : decode cX11_init 195 = .ok (.iconst 4, 1) := by decide +kernel
theorem dX11_init_196 : decode cX11_init 196 = .ok (.newarray .int, 2) := by decide +kernel
theorem dX11_init_198 : decode cX11_init 198 = .ok (.putfield 91, 3) := by decide +kernel
theorem dX11_init_201 : decode cX11_init 201 = .ok (.iconst 0, 1) := by decide +kernel
theorem dX11_init_202 : decode cX11_init 202 = .ok (.istore_n 1, 1) := by decide +kernel
theorem dX11_init_203 : decode cX11_init 203 = .ok (.iload_n 1, 1) := by decide +kernel
theorem dX11_init_204 : decode cX11_init 204 = .ok (.iconst 4, 1) := by decide +kernel
theorem dX11_init_205 : decode cX11_init 205 = .ok (.if_icmp .ge 16, 3) := by decide +kernel
theorem dX11_init_208 : decode cX11_init 208 = .ok (.aload_n 0, 1) := by decide +kernel
theorem dX11_init_209 : decode cX11_init 209 = .ok (.getfield 17, 3) := by decide +kernel
theorem dX11_init_212 : decode cX11_init 212 = .ok (.iload_n 1, 1) := by decide +kernel
theorem dX11_init_213 : decode cX11_init 213 = .ok (.iconst (-1), 1) := by decide +kernel
theorem dX11_init_214 : decode cX11_init 214 = .ok (.iastore, 1) := by decide +kernel
theorem dX11_init_215 : decode cX11_init 215 = .ok (.iinc 1 1, 3) := by decide +kernel
theorem dX11_init_218 : decode cX11_init 218 = .ok (.goto (-15), 3) := by decide +kernel
theorem dX11_init_221 : decode cX11_init 221 = .ok (.aload_n 0, 1) := by decide +kernel
theorem dX11_init_222 : decode cX11_init 222 = .ok (.getfield 35, 3) := by decide +kernel
theorem dX11_init_225 : decode cX11_init 225 = .ok (.iconst 3, 1) := by decide +kernel
theorem dX11_init_226 : decode cX11_init 226 = .ok (.iconst 2, 1) := by decide +kernel
theorem dX11_init_227 : decode cX11_init 227 = .ok (.iastore, 1) := by decide +kernel
theorem dX11_init_228 : decode cX11_init 228 = .ok (.return_, 1) := by decide +kernel
theorem dX11_status_0 : decode cX11_status 0 = .ok (.aload_n 0, 1) := by decide +kernel
theorem dX11_status_1 : decode cX11_status 1 = .ok (.iconst 0, 1) := by decide +kernel
theorem dX11_status_2 : decode cX11_status 2 = .ok (.putfield 94, 3) := by decide +kernel
theorem dX11_status_5 : decode cX11_status 5 = .ok (.aload_n 0, 1) := by decide +kernel
theorem dX11_status_6 : decode cX11_status 6 = .ok (.getfield 97, 3) := by decide +kernel
theorem dX11_status_9 : decode cX11_status 9 = .ok (.ireturn, 1) := by decide +kernel
theorem dX11_top_0 : decode cX11_top 0 = .ok (.aload_n 0, 1) := by decide +kernel
theorem dX11_top_1 : decode cX11_top 1 = .ok (.iconst 0, 1) := by decide +kernel
theorem dX11_top_2 : decode cX11_top 2 = .ok (.putfield 94, 3) := by decide +kernel
theorem dX11_top_5 : decode cX11_top 5 = .ok (.aload_n 0, 1) := by decide +kernel
theorem dX11_top_6 : decode cX11_top 6 = .ok (.getfield 100, 3) := by decide +kernel
theorem dX11_top_9 : decode cX11_top 9 = .ok (.lreturn, 1) := by decide +kernel
theorem dX11_bottom_0 : decode cX11_bottom 0 = .ok (.aload_n 0, 1) := by decide +kernel
theorem dX11_bottom_1 : decode cX11_bottom 1 = .ok (.iconst 0, 1) := by decide +kernel
theorem dX11_bottom_2 : decode cX11_bottom 2 = .ok (.putfield 94, 3) := by decide +kernel
theorem dX11_bottom_5 : decode cX11_bottom 5 = .ok (.aload_n 0, 1) := by decide +kernel
theorem dX11_bottom_6 : decode cX11_bottom 6 = .ok (.getfield 7, 3) := by decide +kernel
theorem dX11_bottom_9 : decode cX11_bottom 9 = .ok (.lreturn, 1) := by decide +kernel
theorem dX11_refuse_0 : decode cX11_refuse 0 = .ok (.aload_n 0, 1) := by decide +kernel
theorem dX11_refuse_1 : decode cX11_refuse 1 = .ok (.iload_n 1, 1) := by decide +kernel
theorem dX11_refuse_2 : decode cX11_refuse 2 = .ok (.putfield 97, 3) := by decide +kernel
theorem dX11_refuse_5 : decode cX11_refuse 5 = .ok (.iconst (-1), 1) := by decide +kernel
theorem dX11_refuse_6 : decode cX11_refuse 6 = .ok (.ireturn, 1) := by decide +kernel
theorem dX11_no_0 : decode cX11_no 0 = .ok (.aload_n 0, 1) := by decide +kernel
theorem dX11_no_1 : decode cX11_no 1 = .ok (.iload_n 1, 1) := by decide +kernel
theorem dX11_no_2 : decode cX11_no 2 = .ok (.putfield 97, 3) := by decide +kernel
theorem dX11_no_5 : decode cX11_no 5 = .ok (.iconst 0, 1) := by decide +kernel
theorem dX11_no_6 : decode cX11_no 6 = .ok (.ireturn, 1) := by decide +kernel
theorem dX11_isIn_0 : decode cX11_isIn 0 = .ok (.lload_n 0, 1) := by decide +kernel
theorem dX11_isIn_1 : decode cX11_isIn 1 = .ok (.lload_n 2, 1) := by decide +kernel
theorem dX11_isIn_2 : decode cX11_isIn 2 = .ok (.lcmp, 1) := by decide +kernel
theorem dX11_isIn_3 : decode cX11_isIn 3 = .ok (.ifCond .lt 14, 3) := by decide +kernel
theorem dX11_isIn_6 : decode cX11_isIn 6 = .ok (.lload_n 0, 1) := by decide +kernel
theorem dX11_isIn_7 : decode cX11_isIn 7 = .ok (.lload 4, 2) := by decide +kernel
theorem dX11_isIn_9 : decode cX11_isIn 9 = .ok (.lcmp, 1) := by decide +kernel
theorem dX11_isIn_10 : decode cX11_isIn 10 = .ok (.ifCond .gt 7, 3) := by decide +kernel
theorem dX11_isIn_13 : decode cX11_isIn 13 = .ok (.iconst 1, 1) := by decide +kernel
theorem dX11_isIn_14 : decode cX11_isIn 14 = .ok (.goto 4, 3) := by decide +kernel
theorem dX11_isIn_17 : decode cX11_isIn 17 = .ok (.iconst 0, 1) := by decide +kernel
theorem dX11_isIn_18 : decode cX11_isIn 18 = .ok (.ireturn, 1) := by decide +kernel
theorem dX11_fraction_0 : decode cX11_fraction 0 = .ok (.lload_n 1, 1) := by decide +kernel
theorem dX11_fraction_1 : decode cX11_fraction 1 = .ok (.invokestatic 103, 3) := by decide +kernel
theorem dX11_fraction_4 : decode cX11_fraction 4 = .ok (.lstore 5, 2) := by decide +kernel
theorem dX11_fraction_6 : decode cX11_fraction 6 = .ok (.lload_n 3, 1) := by decide +kernel
theorem dX11_fraction_7 : decode cX11_fraction 7 = .ok (.lstore 7, 2) := by decide +kernel
theorem dX11_fraction_9 : decode cX11_fraction 9 = .ok (.lload 7, 2) := by decide +kernel
theorem dX11_fraction_11 : decode cX11_fraction 11 = .ok (.lconst 0, 1) := by decide +kernel
theorem dX11_fraction_12 : decode cX11_fraction 12 = .ok (.lcmp, 1) := by decide +kernel
theorem dX11_fraction_13 : decode cX11_fraction 13 = .ok (.ifCond .eq 21, 3) := by decide +kernel
theorem dX11_fraction_16 : decode cX11_fraction 16 = .ok (.lload 5, 2) := by decide +kernel
theorem dX11_fraction_18 : decode cX11_fraction 18 = .ok (.lload 7, 2) := by decide +kernel
theorem dX11_fraction_20 : decode cX11_fraction 20 = .ok (.lrem, 1) := by decide +kernel
theorem dX11_fraction_21 : decode cX11_fraction 21 = .ok (.lstore 9, 2) := by decide +kernel
theorem dX11_fraction_23 : decode cX11_fraction 23 = .ok (.lload 7, 2) := by decide +kernel
theorem dX11_fraction_25 : decode cX11_fraction 25 = .ok (.lstore 5, 2) := by decide +kernel
theorem dX11_fraction_27 : decode cX11_fraction 27 = .ok (.lload 9, 2) := by decide +kernel
theorem dX11_fraction_29 : decode cX11_fraction 29 = .ok (.lstore 7, 2) := by decide +kernel
theorem dX11_fraction_31 : decode cX11_fraction 31 = .ok (.goto (-22), 3) := by decide +kernel
theorem dX11_fraction_34 : decode cX11_fraction 34 = .ok (.aload_n 0, 1) := by decide +kernel
theorem dX11_fraction_35 : decode cX11_fraction 35 = .ok (.lload_n 1, 1) := by decide +kernel
theorem dX11_fraction_36 : decode cX11_fraction 36 = .ok (.lload 5, 2) := by decide +kernel
theorem dX11_fraction_38 : decode cX11_fraction 38 = .ok (.ldiv, 1) := by decide +kernel
theorem dX11_fraction_39 : decode cX11_fraction 39 = .ok (.putfield 100, 3) := by decide +kernel
theorem dX11_fraction_42 : decode cX11_fraction 42 = .ok (.aload_n 0, 1) := by decide +kernel
theorem dX11_fraction_43 : decode cX11_fraction 43 = .ok (.lload_n 3, 1) := by decide +kernel
theorem dX11_fraction_44 : decode cX11_fraction 44 = .ok (.lload 5, 2) := by decide +kernel
theorem dX11_fraction_46 : decode cX11_fraction 46 = .ok (.ldiv, 1) := by decide +kernel
theorem dX11_fraction_47 : decode cX11_fraction 47 = .ok (.putfield 7, 3) := by decide +kernel
theorem dX11_fraction_50 : decode cX11_fraction 50 = .ok (.iconst 1, 1) := by decide +kernel
theorem dX11_fraction_51 : decode cX11_fraction 51 = .ok (.ireturn, 1) := by decide +kernel
theorem dX11_cut_0 : decode cX11_cut 0 = .ok (.iload_n 0, 1) := by decide +kernel
theorem dX11_cut_1 : decode cX11_cut 1 = .ok (.ifCond .ne 10, 3) := by decide +kernel
theorem dX11_cut_4 : decode cX11_cut 4 = .ok (.lload_n 1, 1) := by decide +kernel
theorem dX11_cut_5 : decode cX11_cut 5 = .ok (.l2i, 1) := by decide +kernel
theorem dX11_cut_6 : decode cX11_cut 6 = .ok (.i2b, 1) := by decide +kernel
theorem dX11_cut_7 : decode cX11_cut 7 = .ok (.i2l, 1) := by decide +kernel
theorem dX11_cut_8 : decode cX11_cut 8 = .ok (.goto 27, 3) := by decide +kernel
theorem dX11_cut_11 : decode cX11_cut 11 = .ok (.iload_n 0, 1) := by decide +kernel
theorem dX11_cut_12 : decode cX11_cut 12 = .ok (.iconst 1, 1) := by decide +kernel
theorem dX11_cut_13 : decode cX11_cut 13 = .ok (.if_icmp .ne 10, 3) := by decide +kernel
theorem dX11_cut_16 : decode cX11_cut 16 = .ok (.lload_n 1, 1) := by decide +kernel
theorem dX11_cut_17 : decode cX11_cut 17 = .ok (.l2i, 1) := by decide +kernel
theorem dX11_cut_18 : decode cX11_cut 18 = .ok (.i2s, 1) := by decide +kernel
theorem dX11_cut_19 : decode cX11_cut 19 = .ok (.i2l, 1) := by decide +kernel
theorem dX11_cut_20 : decode cX11_cut 20 = .ok (.goto 15, 3) := by decide +kernel
theorem dX11_cut_23 : decode cX11_cut 23 = .ok (.iload_n 0, 1) := by decide +kernel
theorem dX11_cut_24 : decode cX11_cut 24 = .ok (.iconst 2, 1) := by decide +kernel
theorem dX11_cut_25 : decode cX11_cut 25 = .ok (.if_icmp .ne 9, 3) := by decide +kernel
theorem dX11_cut_28 : decode cX11_cut 28 = .ok (.lload_n 1, 1) := by decide +kernel
theorem dX11_cut_29 : decode cX11_cut 29 = .ok (.l2i, 1) := by decide +kernel
theorem dX11_cut_30 : decode cX11_cut 30 = .ok (.i2l, 1) := by decide +kernel
theorem dX11_cut_31 : decode cX11_cut 31 = .ok (.goto 4, 3) := by decide +kernel
theorem dX11_cut_34 : decode cX11_cut 34 = .ok (.lload_n 1, 1) := by decide +kernel
theorem dX11_cut_35 : decode cX11_cut 35 = .ok (.lreturn, 1) := by decide +kernel
theorem dX11_tray_0 : decode cX11_tray 0 = .ok (.aload_n 0, 1) := by decide +kernel
theorem dX11_tray_1 : decode cX11_tray 1 = .ok (.iconst 0, 1) := by decide +kernel
theorem dX11_tray_2 : decode cX11_tray 2 = .ok (.putfield 94, 3) := by decide +kernel
theorem dX11_tray_5 : decode cX11_tray 5 = .ok (.aload_n 0, 1) := by decide +kernel
theorem dX11_tray_6 : decode cX11_tray 6 = .ok (.iconst 0, 1) := by decide +kernel
theorem dX11_tray_7 : decode cX11_tray 7 = .ok (.putfield 97, 3) := by decide +kernel
theorem dX11_tray_10 : decode cX11_tray 10 = .ok (.iload_n 1, 1) := by decide +kernel
theorem dX11_tray_11 : decode cX11_tray 11 = .ok (.ifCond .lt 17, 3) := by decide +kernel
theorem dX11_tray_14 : decode cX11_tray 14 = .ok (.iload_n 1, 1) := by decide +kernel
theorem dX11_tray_15 : decode cX11_tray 15 = .ok (.iconst 4, 1) := by decide +kernel
theorem dX11_tray_16 : decode cX11_tray 16 = .ok (.if_icmp .ge 12, 3) := by decide +kernel
theorem dX11_tray_19 : decode cX11_tray 19 = .ok (.iload_n 2, 1) := by decide +kernel
theorem dX11_tray_20 : decode cX11_tray 20 = .ok (.ifCond .lt 8, 3) := by decide +kernel
theorem dX11_tray_23 : decode cX11_tray 23 = .ok (.iload_n 2, 1) := by decide +kernel
theorem dX11_tray_24 : decode cX11_tray 24 = .ok (.iconst 3, 1) := by decide +kernel
theorem dX11_tray_25 : decode cX11_tray 25 = .ok (.if_icmp .le 9, 3) := by decide +kernel
theorem dX11_tray_28 : decode cX11_tray 28 = .ok (.aload_n 0, 1) := by decide +kernel
theorem dX11_tray_29 : decode cX11_tray 29 = .ok (.iconst 1, 1) := by decide +kernel
theorem dX11_tray_30 : decode cX11_tray 30 = .ok (.invokevirtual 109, 3) := by decide +kernel
theorem dX11_tray_33 : decode cX11_tray 33 = .ok (.ireturn, 1) := by decide +kernel
theorem dX11_tray_34 : decode cX11_tray 34 = .ok (.iload_n 3, 1) := by decide +kernel
theorem dX11_tray_35 : decode cX11_tray 35 = .ok (.bipush 60, 2) := by decide +kernel
theorem dX11_tray_37 : decode cX11_tray 37 = .ok (.if_icmp .le 9, 3) := by decide +kernel
theorem dX11_tray_40 : decode cX11_tray 40 = .ok (.aload_n 0, 1) := by decide +kernel
theorem dX11_tray_41 : decode cX11_tray 41 = .ok (.iconst 5, 1) := by decide +kernel
theorem dX11_tray_42 : decode cX11_tray 42 = .ok (.invokevirtual 109, 3) := by decide +kernel
theorem dX11_tray_45 : decode cX11_tray 45 = .ok (.ireturn, 1) := by decide +kernel
theorem dX11_tray_46 : decode cX11_tray 46 = .ok (.iload_n 3, 1) := by decide +kernel
theorem dX11_tray_47 : decode cX11_tray 47 = .ok (.ifCond .ge 10, 3) := by decide +kernel
theorem dX11_tray_50 : decode cX11_tray 50 = .ok (.aload_n 0, 1) := by decide +kernel
theorem dX11_tray_51 : decode cX11_tray 51 = .ok (.bipush 6, 2) := by decide +kernel
theorem dX11_tray_53 : decode cX11_tray 53 = .ok (.invokevirtual 109, 3) := by decide +kernel
theorem dX11_tray_56 : decode cX11_tray 56 = .ok (.ireturn, 1) := by decide +kernel
theorem dX11_tray_57 : decode cX11_tray 57 = .ok (.aload_n 0, 1) := by decide +kernel
theorem dX11_tray_58 : decode cX11_tray 58 = .ok (.getfield 13, 3) := by decide +kernel
theorem dX11_tray_61 : decode cX11_tray 61 = .ok (.iload_n 1, 1) := by decide +kernel
theorem dX11_tray_62 : decode cX11_tray 62 = .ok (.iload_n 2, 1) := by decide +kernel
theorem dX11_tray_63 : decode cX11_tray 63 = .ok (.iastore, 1) := by decide +kernel
theorem dX11_tray_64 : decode cX11_tray 64 = .ok (.aload_n 0, 1) := by decide +kernel
theorem dX11_tray_65 : decode cX11_tray 65 = .ok (.getfield 17, 3) := by decide +kernel
theorem dX11_tray_68 : decode cX11_tray 68 = .ok (.iload_n 1, 1) := by decide +kernel
theorem dX11_tray_69 : decode cX11_tray 69 = .ok (.iload_n 3, 1) := by decide +kernel
theorem dX11_tray_70 : decode cX11_tray 70 = .ok (.iastore, 1) := by decide +kernel
theorem dX11_tray_71 : decode cX11_tray 71 = .ok (.iconst 0, 1) := by decide +kernel
theorem dX11_tray_72 : decode cX11_tray 72 = .ok (.istore 4, 2) := by decide +kernel
theorem dX11_tray_74 : decode cX11_tray 74 = .ok (.iload 4, 2) := by decide +kernel
theorem dX11_tray_76 : decode cX11_tray 76 = .ok (.iload_n 3, 1) := by decide +kernel
theorem dX11_tray_77 : decode cX11_tray 77 = .ok (.if_icmp .ge 22, 3) := by decide +kernel
theorem dX11_tray_80 : decode cX11_tray 80 = .ok (.aload_n 0, 1) := by decide +kernel
theorem dX11_tray_81 : decode cX11_tray 81 = .ok (.getfield 20, 3) := by decide +kernel
theorem dX11_tray_84 : decode cX11_tray 84 = .ok (.bipush 60, 2) := by decide +kernel
theorem dX11_tray_86 : decode cX11_tray 86 = .ok (.iload_n 1, 1) := by decide +kernel
theorem dX11_tray_87 : decode cX11_tray 87 = .ok (.imul, 1) := by decide +kernel
theorem dX11_tray_88 : decode cX11_tray 88 = .ok (.iload 4, 2) := by decide +kernel
theorem dX11_tray_90 : decode cX11_tray 90 = .ok (.iadd, 1) := by decide +kernel
theorem dX11_tray_91 : decode cX11_tray 91 = .ok (.lconst 0, 1) := by decide +kernel
theorem dX11_tray_92 : decode cX11_tray 92 = .ok (.lastore, 1) := by decide +kernel
theorem dX11_tray_93 : decode cX11_tray 93 = .ok (.iinc 4 1, 3) := by decide +kernel
theorem dX11_tray_96 : decode cX11_tray 96 = .ok (.goto (-22), 3) := by decide +kernel
theorem dX11_tray_99 : decode cX11_tray 99 = .ok (.iconst 1, 1) := by decide +kernel
theorem dX11_tray_100 : decode cX11_tray 100 = .ok (.ireturn, 1) := by decide +kernel
theorem dX11_trayed_0 : decode cX11_trayed 0 = .ok (.iload_n 1, 1) := by decide +kernel
theorem dX11_trayed_1 : decode cX11_trayed 1 = .ok (.ifCond .lt 8, 3) := by decide +kernel
theorem dX11_trayed_4 : decode cX11_trayed 4 = .ok (.iload_n 1, 1) := by decide +kernel
theorem dX11_trayed_5 : decode cX11_trayed 5 = .ok (.iconst 4, 1) := by decide +kernel
theorem dX11_trayed_6 : decode cX11_trayed 6 = .ok (.if_icmp .lt 7, 3) := by decide +kernel
theorem dX11_trayed_9 : decode cX11_trayed 9 = .ok (.iconst 1, 1) := by decide +kernel
theorem dX11_trayed_10 : decode cX11_trayed 10 = .ok (.goto 17, 3) := by decide +kernel
theorem dX11_trayed_13 : decode cX11_trayed 13 = .ok (.aload_n 0, 1) := by decide +kernel
theorem dX11_trayed_14 : decode cX11_trayed 14 = .ok (.getfield 17, 3) := by decide +kernel
theorem dX11_trayed_17 : decode cX11_trayed 17 = .ok (.iload_n 1, 1) := by decide +kernel
theorem dX11_trayed_18 : decode cX11_trayed 18 = .ok (.iaload, 1) := by decide +kernel
theorem dX11_trayed_19 : decode cX11_trayed 19 = .ok (.ifCond .ge 7, 3) := by decide +kernel
theorem dX11_trayed_22 : decode cX11_trayed 22 = .ok (.iconst 3, 1) := by decide +kernel
theorem dX11_trayed_23 : decode cX11_trayed 23 = .ok (.goto 4, 3) := by decide +kernel
theorem dX11_trayed_26 : decode cX11_trayed 26 = .ok (.iconst 0, 1) := by decide +kernel
theorem dX11_trayed_27 : decode cX11_trayed 27 = .ok (.ireturn, 1) := by decide +kernel
theorem dX11_placed_0 : decode cX11_placed 0 = .ok (.aload_n 0, 1) := by decide +kernel
theorem dX11_placed_1 : decode cX11_placed 1 = .ok (.iload_n 1, 1) := by decide +kernel
theorem dX11_placed_2 : decode cX11_placed 2 = .ok (.invokevirtual 113, 3) := by decide +kernel
theorem dX11_placed_5 : decode cX11_placed 5 = .ok (.istore_n 3, 1) := by decide +kernel
theorem dX11_placed_6 : decode cX11_placed 6 = .ok (.iload_n 3, 1) := by decide +kernel
theorem dX11_placed_7 : decode cX11_placed 7 = .ok (.ifCond .le 7, 3) := by decide +kernel
theorem dX11_placed_10 : decode cX11_placed 10 = .ok (.iload_n 3, 1) := by decide +kernel
theorem dX11_placed_11 : decode cX11_placed 11 = .ok (.goto 22, 3) := by decide +kernel
theorem dX11_placed_14 : decode cX11_placed 14 = .ok (.iload_n 2, 1) := by decide +kernel
theorem dX11_placed_15 : decode cX11_placed 15 = .ok (.ifCond .lt 13, 3) := by decide +kernel
theorem dX11_placed_18 : decode cX11_placed 18 = .ok (.iload_n 2, 1) := by decide +kernel
theorem dX11_placed_19 : decode cX11_placed 19 = .ok (.aload_n 0, 1) := by decide +kernel
theorem dX11_placed_20 : decode cX11_placed 20 = .ok (.getfield 17, 3) := by decide +kernel
theorem dX11_placed_23 : decode cX11_placed 23 = .ok (.iload_n 1, 1) := by decide +kernel
theorem dX11_placed_24 : decode cX11_placed 24 = .ok (.iaload, 1) := by decide +kernel
theorem dX11_placed_25 : decode cX11_placed 25 = .ok (.if_icmp .lt 7, 3) := by decide +kernel
theorem dX11_placed_28 : decode cX11_placed 28 = .ok (.iconst 4, 1) := by decide +kernel
theorem dX11_placed_29 : decode cX11_placed 29 = .ok (.goto 4, 3) := by decide +kernel
theorem dX11_placed_32 : decode cX11_placed 32 = .ok (.iconst 0, 1) := by decide +kernel
theorem dX11_placed_33 : decode cX11_placed 33 = .ok (.ireturn, 1) := by decide +kernel
theorem dX11_write_0 : decode cX11_write 0 = .ok (.aload_n 0, 1) := by decide +kernel
theorem dX11_write_1 : decode cX11_write 1 = .ok (.iconst 0, 1) := by decide +kernel
theorem dX11_write_2 : decode cX11_write 2 = .ok (.putfield 94, 3) := by decide +kernel
theorem dX11_write_5 : decode cX11_write 5 = .ok (.aload_n 0, 1) := by decide +kernel
theorem dX11_write_6 : decode cX11_write 6 = .ok (.aload_n 0, 1) := by decide +kernel
theorem dX11_write_7 : decode cX11_write 7 = .ok (.iload_n 1, 1) := by decide +kernel
theorem dX11_write_8 : decode cX11_write 8 = .ok (.iload_n 2, 1) := by decide +kernel
theorem dX11_write_9 : decode cX11_write 9 = .ok (.invokevirtual 117, 3) := by decide +kernel
theorem dX11_write_12 : decode cX11_write 12 = .ok (.putfield 97, 3) := by decide +kernel
theorem dX11_write_15 : decode cX11_write 15 = .ok (.aload_n 0, 1) := by decide +kernel
theorem dX11_write_16 : decode cX11_write 16 = .ok (.getfield 97, 3) := by decide +kernel
theorem dX11_write_19 : decode cX11_write 19 = .ok (.ifCond .le 5, 3) := by decide +kernel
theorem dX11_write_22 : decode cX11_write 22 = .ok (.iconst 0, 1) := by decide +kernel
theorem dX11_write_23 : decode cX11_write 23 = .ok (.ireturn, 1) := by decide +kernel
theorem dX11_write_24 : decode cX11_write 24 = .ok (.aload_n 0, 1) := by decide +kernel
theorem dX11_write_25 : decode cX11_write 25 = .ok (.getfield 20, 3) := by decide +kernel
theorem dX11_write_28 : decode cX11_write 28 = .ok (.bipush 60, 2) := by decide +kernel
theorem dX11_write_30 : decode cX11_write 30 = .ok (.iload_n 1, 1) := by decide +kernel
theorem dX11_write_31 : decode cX11_write 31 = .ok (.imul, 1) := by decide +kernel
theorem dX11_write_32 : decode cX11_write 32 = .ok (.iload_n 2, 1) := by decide +kernel
theorem dX11_write_33 : decode cX11_write 33 = .ok (.iadd, 1) := by decide +kernel
theorem dX11_write_34 : decode cX11_write 34 = .ok (.aload_n 0, 1) := by decide +kernel
theorem dX11_write_35 : decode cX11_write 35 = .ok (.getfield 13, 3) := by decide +kernel
theorem dX11_write_38 : decode cX11_write 38 = .ok (.iload_n 1, 1) := by decide +kernel
theorem dX11_write_39 : decode cX11_write 39 = .ok (.iaload, 1) := by decide +kernel
theorem dX11_write_40 : decode cX11_write 40 = .ok (.lload_n 3, 1) := by decide +kernel
theorem dX11_write_41 : decode cX11_write 41 = .ok (.invokestatic 121, 3) := by decide +kernel
theorem dX11_write_44 : decode cX11_write 44 = .ok (.lastore, 1) := by decide +kernel
theorem dX11_write_45 : decode cX11_write 45 = .ok (.iconst 1, 1) := by decide +kernel
theorem dX11_write_46 : decode cX11_write 46 = .ok (.ireturn, 1) := by decide +kernel
theorem dX11_read_0 : decode cX11_read 0 = .ok (.aload_n 0, 1) := by decide +kernel
theorem dX11_read_1 : decode cX11_read 1 = .ok (.iconst 0, 1) := by decide +kernel
theorem dX11_read_2 : decode cX11_read 2 = .ok (.putfield 94, 3) := by decide +kernel
theorem dX11_read_5 : decode cX11_read 5 = .ok (.aload_n 0, 1) := by decide +kernel
theorem dX11_read_6 : decode cX11_read 6 = .ok (.aload_n 0, 1) := by decide +kernel
theorem dX11_read_7 : decode cX11_read 7 = .ok (.iload_n 1, 1) := by decide +kernel
theorem dX11_read_8 : decode cX11_read 8 = .ok (.iload_n 2, 1) := by decide +kernel
theorem dX11_read_9 : decode cX11_read 9 = .ok (.invokevirtual 117, 3) := by decide +kernel
theorem dX11_read_12 : decode cX11_read 12 = .ok (.putfield 97, 3) := by decide +kernel
theorem dX11_read_15 : decode cX11_read 15 = .ok (.aload_n 0, 1) := by decide +kernel
theorem dX11_read_16 : decode cX11_read 16 = .ok (.getfield 97, 3) := by decide +kernel
theorem dX11_read_19 : decode cX11_read 19 = .ok (.ifCond .le 9, 3) := by decide +kernel
theorem dX11_read_22 : decode cX11_read 22 = .ok (.ldc2_w 125, 3) := by decide +kernel
theorem dX11_read_25 : decode cX11_read 25 = .ok (.goto 14, 3) := by decide +kernel
theorem dX11_read_28 : decode cX11_read 28 = .ok (.aload_n 0, 1) := by decide +kernel
theorem dX11_read_29 : decode cX11_read 29 = .ok (.getfield 20, 3) := by decide +kernel
theorem dX11_read_32 : decode cX11_read 32 = .ok (.bipush 60, 2) := by decide +kernel
theorem dX11_read_34 : decode cX11_read 34 = .ok (.iload_n 1, 1) := by decide +kernel
theorem dX11_read_35 : decode cX11_read 35 = .ok (.imul, 1) := by decide +kernel
theorem dX11_read_36 : decode cX11_read 36 = .ok (.iload_n 2, 1) := by decide +kernel
theorem dX11_read_37 : decode cX11_read 37 = .ok (.iadd, 1) := by decide +kernel
theorem dX11_read_38 : decode cX11_read 38 = .ok (.laload, 1) := by decide +kernel
theorem dX11_read_39 : decode cX11_read 39 = .ok (.lreturn, 1) := by decide +kernel
theorem dX11_pour_0 : decode cX11_pour 0 = .ok (.aload_n 0, 1) := by decide +kernel
theorem dX11_pour_1 : decode cX11_pour 1 = .ok (.iconst 0, 1) := by decide +kernel
theorem dX11_pour_2 : decode cX11_pour 2 = .ok (.putfield 94, 3) := by decide +kernel
theorem dX11_pour_5 : decode cX11_pour 5 = .ok (.aload_n 0, 1) := by decide +kernel
theorem dX11_pour_6 : decode cX11_pour 6 = .ok (.iconst 0, 1) := by decide +kernel
theorem dX11_pour_7 : decode cX11_pour 7 = .ok (.putfield 97, 3) := by decide +kernel
theorem dX11_pour_10 : decode cX11_pour 10 = .ok (.iload_n 1, 1) := by decide +kernel
theorem dX11_pour_11 : decode cX11_pour 11 = .ok (.ifCond .lt 17, 3) := by decide +kernel
theorem dX11_pour_14 : decode cX11_pour 14 = .ok (.iload_n 1, 1) := by decide +kernel
theorem dX11_pour_15 : decode cX11_pour 15 = .ok (.iconst 4, 1) := by decide +kernel
theorem dX11_pour_16 : decode cX11_pour 16 = .ok (.if_icmp .ge 12, 3) := by decide +kernel
theorem dX11_pour_19 : decode cX11_pour 19 = .ok (.iload_n 3, 1) := by decide +kernel
theorem dX11_pour_20 : decode cX11_pour 20 = .ok (.ifCond .lt 8, 3) := by decide +kernel
theorem dX11_pour_23 : decode cX11_pour 23 = .ok (.iload_n 3, 1) := by decide +kernel
theorem dX11_pour_24 : decode cX11_pour 24 = .ok (.iconst 4, 1) := by decide +kernel
theorem dX11_pour_25 : decode cX11_pour 25 = .ok (.if_icmp .lt 9, 3) := by decide +kernel
theorem dX11_pour_28 : decode cX11_pour 28 = .ok (.aload_n 0, 1) := by decide +kernel
theorem dX11_pour_29 : decode cX11_pour 29 = .ok (.iconst 1, 1) := by decide +kernel
theorem dX11_pour_30 : decode cX11_pour 30 = .ok (.invokevirtual 109, 3) := by decide +kernel
theorem dX11_pour_33 : decode cX11_pour 33 = .ok (.ireturn, 1) := by decide +kernel
theorem dX11_pour_34 : decode cX11_pour 34 = .ok (.aload_n 0, 1) := by decide +kernel
theorem dX11_pour_35 : decode cX11_pour 35 = .ok (.getfield 17, 3) := by decide +kernel
theorem dX11_pour_38 : decode cX11_pour 38 = .ok (.iload_n 1, 1) := by decide +kernel
theorem dX11_pour_39 : decode cX11_pour 39 = .ok (.iaload, 1) := by decide +kernel
theorem dX11_pour_40 : decode cX11_pour 40 = .ok (.ifCond .lt 12, 3) := by decide +kernel
theorem dX11_pour_43 : decode cX11_pour 43 = .ok (.aload_n 0, 1) := by decide +kernel
theorem dX11_pour_44 : decode cX11_pour 44 = .ok (.getfield 17, 3) := by decide +kernel
theorem dX11_pour_47 : decode cX11_pour 47 = .ok (.iload_n 3, 1) := by decide +kernel
theorem dX11_pour_48 : decode cX11_pour 48 = .ok (.iaload, 1) := by decide +kernel
theorem dX11_pour_49 : decode cX11_pour 49 = .ok (.ifCond .ge 9, 3) := by decide +kernel
theorem dX11_pour_52 : decode cX11_pour 52 = .ok (.aload_n 0, 1) := by decide +kernel
theorem dX11_pour_53 : decode cX11_pour 53 = .ok (.iconst 3, 1) := by decide +kernel
theorem dX11_pour_54 : decode cX11_pour 54 = .ok (.invokevirtual 109, 3) := by decide +kernel
theorem dX11_pour_57 : decode cX11_pour 57 = .ok (.ireturn, 1) := by decide +kernel
theorem dX11_pour_58 : decode cX11_pour 58 = .ok (.aload_n 0, 1) := by decide +kernel
theorem dX11_pour_59 : decode cX11_pour 59 = .ok (.getfield 13, 3) := by decide +kernel
theorem dX11_pour_62 : decode cX11_pour 62 = .ok (.iload_n 1, 1) := by decide +kernel
theorem dX11_pour_63 : decode cX11_pour 63 = .ok (.iaload, 1) := by decide +kernel
theorem dX11_pour_64 : decode cX11_pour 64 = .ok (.aload_n 0, 1) := by decide +kernel
theorem dX11_pour_65 : decode cX11_pour 65 = .ok (.getfield 13, 3) := by decide +kernel
theorem dX11_pour_68 : decode cX11_pour 68 = .ok (.iload_n 3, 1) := by decide +kernel
theorem dX11_pour_69 : decode cX11_pour 69 = .ok (.iaload, 1) := by decide +kernel
theorem dX11_pour_70 : decode cX11_pour 70 = .ok (.if_icmp .eq 10, 3) := by decide +kernel
theorem dX11_pour_73 : decode cX11_pour 73 = .ok (.aload_n 0, 1) := by decide +kernel
theorem dX11_pour_74 : decode cX11_pour 74 = .ok (.bipush 11, 2) := by decide +kernel
theorem dX11_pour_76 : decode cX11_pour 76 = .ok (.invokevirtual 109, 3) := by decide +kernel
theorem dX11_pour_79 : decode cX11_pour 79 = .ok (.ireturn, 1) := by decide +kernel
theorem dX11_pour_80 : decode cX11_pour 80 = .ok (.iload 5, 2) := by decide +kernel
theorem dX11_pour_82 : decode cX11_pour 82 = .ok (.ifCond .ge 10, 3) := by decide +kernel
theorem dX11_pour_85 : decode cX11_pour 85 = .ok (.aload_n 0, 1) := by decide +kernel
theorem dX11_pour_86 : decode cX11_pour 86 = .ok (.bipush 6, 2) := by decide +kernel
theorem dX11_pour_88 : decode cX11_pour 88 = .ok (.invokevirtual 109, 3) := by decide +kernel
theorem dX11_pour_91 : decode cX11_pour 91 = .ok (.ireturn, 1) := by decide +kernel
theorem dX11_pour_92 : decode cX11_pour 92 = .ok (.iload_n 2, 1) := by decide +kernel
theorem dX11_pour_93 : decode cX11_pour 93 = .ok (.ifCond .lt 43, 3) := by decide +kernel
theorem dX11_pour_96 : decode cX11_pour 96 = .ok (.iload 4, 2) := by decide +kernel
theorem dX11_pour_98 : decode cX11_pour 98 = .ok (.ifCond .lt 38, 3) := by decide +kernel
theorem dX11_pour_101 : decode cX11_pour 101 = .ok (.iload_n 2, 1) := by decide +kernel
theorem dX11_pour_102 : decode cX11_pour 102 = .ok (.i2l, 1) := by decide +kernel
theorem dX11_pour_103 : decode cX11_pour 103 = .ok (.iload 5, 2) := by decide +kernel
theorem dX11_pour_105 : decode cX11_pour 105 = .ok (.i2l, 1) := by decide +kernel
theorem dX11_pour_106 : decode cX11_pour 106 = .ok (.ladd, 1) := by decide +kernel
theorem dX11_pour_107 : decode cX11_pour 107 = .ok (.aload_n 0, 1) := by decide +kernel
theorem dX11_pour_108 : decode cX11_pour 108 = .ok (.getfield 17, 3) := by decide +kernel
theorem dX11_pour_111 : decode cX11_pour 111 = .ok (.iload_n 1, 1) := by decide +kernel
theorem dX11_pour_112 : decode cX11_pour 112 = .ok (.iaload, 1) := by decide +kernel
theorem dX11_pour_113 : decode cX11_pour 113 = .ok (.i2l, 1) := by decide +kernel
theorem dX11_pour_114 : decode cX11_pour 114 = .ok (.lcmp, 1) := by decide +kernel
theorem dX11_pour_115 : decode cX11_pour 115 = .ok (.ifCond .gt 21, 3) := by decide +kernel
theorem dX11_pour_118 : decode cX11_pour 118 = .ok (.iload 4, 2) := by decide +kernel
theorem dX11_pour_120 : decode cX11_pour 120 = .ok (.i2l, 1) := by decide +kernel
theorem dX11_pour_121 : decode cX11_pour 121 = .ok (.iload 5, 2) := by decide +kernel
theorem dX11_pour_123 : decode cX11_pour 123 = .ok (.i2l, 1) := by decide +kernel
theorem dX11_pour_124 : decode cX11_pour 124 = .ok (.ladd, 1) := by decide +kernel
theorem dX11_pour_125 : decode cX11_pour 125 = .ok (.aload_n 0, 1) := by decide +kernel
theorem dX11_pour_126 : decode cX11_pour 126 = .ok (.getfield 17, 3) := by decide +kernel
theorem dX11_pour_129 : decode cX11_pour 129 = .ok (.iload_n 3, 1) := by decide +kernel
theorem dX11_pour_130 : decode cX11_pour 130 = .ok (.iaload, 1) := by decide +kernel
theorem dX11_pour_131 : decode cX11_pour 131 = .ok (.i2l, 1) := by decide +kernel
theorem dX11_pour_132 : decode cX11_pour 132 = .ok (.lcmp, 1) := by decide +kernel
theorem dX11_pour_133 : decode cX11_pour 133 = .ok (.ifCond .le 9, 3) := by decide +kernel
theorem dX11_pour_136 : decode cX11_pour 136 = .ok (.aload_n 0, 1) := by decide +kernel
theorem dX11_pour_137 : decode cX11_pour 137 = .ok (.iconst 4, 1) := by decide +kernel
theorem dX11_pour_138 : decode cX11_pour 138 = .ok (.invokevirtual 109, 3) := by decide +kernel
theorem dX11_pour_141 : decode cX11_pour 141 = .ok (.ireturn, 1) := by decide +kernel
theorem dX11_pour_142 : decode cX11_pour 142 = .ok (.iload_n 2, 1) := by decide +kernel
theorem dX11_pour_143 : decode cX11_pour 143 = .ok (.iload 4, 2) := by decide +kernel
theorem dX11_pour_145 : decode cX11_pour 145 = .ok (.if_icmp .ge 7, 3) := by decide +kernel
theorem dX11_pour_148 : decode cX11_pour 148 = .ok (.iconst 1, 1) := by decide +kernel
theorem dX11_pour_149 : decode cX11_pour 149 = .ok (.goto 4, 3) := by decide +kernel
theorem dX11_pour_152 : decode cX11_pour 152 = .ok (.iconst 0, 1) := by decide +kernel
theorem dX11_pour_153 : decode cX11_pour 153 = .ok (.istore 6, 2) := by decide +kernel
theorem dX11_pour_155 : decode cX11_pour 155 = .ok (.iconst 0, 1) := by decide +kernel
theorem dX11_pour_156 : decode cX11_pour 156 = .ok (.istore 7, 2) := by decide +kernel
theorem dX11_pour_158 : decode cX11_pour 158 = .ok (.iload 7, 2) := by decide +kernel
theorem dX11_pour_160 : decode cX11_pour 160 = .ok (.iload 5, 2) := by decide +kernel
theorem dX11_pour_162 : decode cX11_pour 162 = .ok (.if_icmp .ge 57, 3) := by decide +kernel
theorem dX11_pour_165 : decode cX11_pour 165 = .ok (.iload 6, 2) := by decide +kernel
theorem dX11_pour_167 : decode cX11_pour 167 = .ok (.ifCond .eq 13, 3) := by decide +kernel
theorem dX11_pour_170 : decode cX11_pour 170 = .ok (.iload 5, 2) := by decide +kernel
theorem dX11_pour_172 : decode cX11_pour 172 = .ok (.iconst 1, 1) := by decide +kernel
theorem dX11_pour_173 : decode cX11_pour 173 = .ok (.isub, 1) := by decide +kernel
theorem dX11_pour_174 : decode cX11_pour 174 = .ok (.iload 7, 2) := by decide +kernel
theorem dX11_pour_176 : decode cX11_pour 176 = .ok (.isub, 1) := by decide +kernel
theorem dX11_pour_177 : decode cX11_pour 177 = .ok (.goto 5, 3) := by decide +kernel
theorem dX11_pour_180 : decode cX11_pour 180 = .ok (.iload 7, 2) := by decide +kernel
theorem dX11_pour_182 : decode cX11_pour 182 = .ok (.istore 8, 2) := by decide +kernel
theorem dX11_pour_184 : decode cX11_pour 184 = .ok (.aload_n 0, 1) := by decide +kernel
theorem dX11_pour_185 : decode cX11_pour 185 = .ok (.getfield 20, 3) := by decide +kernel
theorem dX11_pour_188 : decode cX11_pour 188 = .ok (.bipush 60, 2) := by decide +kernel
theorem dX11_pour_190 : decode cX11_pour 190 = .ok (.iload_n 3, 1) := by decide +kernel
theorem dX11_pour_191 : decode cX11_pour 191 = .ok (.imul, 1) := by decide +kernel
theorem dX11_pour_192 : decode cX11_pour 192 = .ok (.iload 4, 2) := by decide +kernel
theorem dX11_pour_194 : decode cX11_pour 194 = .ok (.iadd, 1) := by decide +kernel
theorem dX11_pour_195 : decode cX11_pour 195 = .ok (.iload 8, 2) := by decide +kernel
theorem dX11_pour_197 : decode cX11_pour 197 = .ok (.iadd, 1) := by decide +kernel
theorem dX11_pour_198 : decode cX11_pour 198 = .ok (.aload_n 0, 1) := by decide +kernel
theorem dX11_pour_199 : decode cX11_pour 199 = .ok (.getfield 20, 3) := by decide +kernel
theorem dX11_pour_202 : decode cX11_pour 202 = .ok (.bipush 60, 2) := by decide +kernel
theorem dX11_pour_204 : decode cX11_pour 204 = .ok (.iload_n 1, 1) := by decide +kernel
theorem dX11_pour_205 : decode cX11_pour 205 = .ok (.imul, 1) := by decide +kernel
theorem dX11_pour_206 : decode cX11_pour 206 = .ok (.iload_n 2, 1) := by decide +kernel
theorem dX11_pour_207 : decode cX11_pour 207 = .ok (.iadd, 1) := by decide +kernel
theorem dX11_pour_208 : decode cX11_pour 208 = .ok (.iload 8, 2) := by decide +kernel
theorem dX11_pour_210 : decode cX11_pour 210 = .ok (.iadd, 1) := by decide +kernel
theorem dX11_pour_211 : decode cX11_pour 211 = .ok (.laload, 1) := by decide +kernel
theorem dX11_pour_212 : decode cX11_pour 212 = .ok (.lastore, 1) := by decide +kernel
theorem dX11_pour_213 : decode cX11_pour 213 = .ok (.iinc 7 1, 3) := by decide +kernel
theorem dX11_pour_216 : decode cX11_pour 216 = .ok (.goto (-58), 3) := by decide +kernel
theorem dX11_pour_219 : decode cX11_pour 219 = .ok (.iconst 1, 1) := by decide +kernel
theorem dX11_pour_220 : decode cX11_pour 220 = .ok (.ireturn, 1) := by decide +kernel
theorem dX11_numberOf_0 : decode cX11_numberOf 0 = .ok (.aload_n 0, 1) := by decide +kernel
theorem dX11_numberOf_1 : decode cX11_numberOf 1 = .ok (.getfield 20, 3) := by decide +kernel
theorem dX11_numberOf_4 : decode cX11_numberOf 4 = .ok (.bipush 60, 2) := by decide +kernel
theorem dX11_numberOf_6 : decode cX11_numberOf 6 = .ok (.iload_n 1, 1) := by decide +kernel
theorem dX11_numberOf_7 : decode cX11_numberOf 7 = .ok (.imul, 1) := by decide +kernel
theorem dX11_numberOf_8 : decode cX11_numberOf 8 = .ok (.iload_n 2, 1) := by decide +kernel
theorem dX11_numberOf_9 : decode cX11_numberOf 9 = .ok (.iadd, 1) := by decide +kernel
theorem dX11_numberOf_10 : decode cX11_numberOf 10 = .ok (.laload, 1) := by decide +kernel
theorem dX11_numberOf_11 : decode cX11_numberOf 11 = .ok (.lreturn, 1) := by decide +kernel
theorem dX11_isTray_0 : decode cX11_isTray 0 = .ok (.iload_n 1, 1) := by decide +kernel
theorem dX11_isTray_1 : decode cX11_isTray 1 = .ok (.i2l, 1) := by decide +kernel
theorem dX11_isTray_2 : decode cX11_isTray 2 = .ok (.lconst 0, 1) := by decide +kernel
theorem dX11_isTray_3 : decode cX11_isTray 3 = .ok (.ldc2_w 127, 3) := by decide +kernel
theorem dX11_isTray_6 : decode cX11_isTray 6 = .ok (.invokestatic 129, 3) := by decide +kernel
theorem dX11_isTray_9 : decode cX11_isTray 9 = .ok (.ireturn, 1) := by decide +kernel
theorem dX11_has_0 : decode cX11_has 0 = .ok (.iload_n 0, 1) := by decide +kernel
theorem dX11_has_1 : decode cX11_has 1 = .ok (.iload_n 1, 1) := by decide +kernel
theorem dX11_has_2 : decode cX11_has 2 = .ok (.ishr, 1) := by decide +kernel
theorem dX11_has_3 : decode cX11_has 3 = .ok (.iconst 1, 1) := by decide +kernel
theorem dX11_has_4 : decode cX11_has 4 = .ok (.iand, 1) := by decide +kernel
theorem dX11_has_5 : decode cX11_has 5 = .ok (.iconst 1, 1) := by decide +kernel
theorem dX11_has_6 : decode cX11_has 6 = .ok (.if_icmp .ne 7, 3) := by decide +kernel
theorem dX11_has_9 : decode cX11_has 9 = .ok (.iconst 1, 1) := by decide +kernel
theorem dX11_has_10 : decode cX11_has 10 = .ok (.goto 4, 3) := by decide +kernel
theorem dX11_has_13 : decode cX11_has 13 = .ok (.iconst 0, 1) := by decide +kernel
theorem dX11_has_14 : decode cX11_has 14 = .ok (.ireturn, 1) := by decide +kernel
theorem dX11_look2_0 : decode cX11_look2 0 = .ok (.iload_n 1, 1) := by decide +kernel
theorem dX11_look2_1 : decode cX11_look2 1 = .ok (.aload_n 0, 1) := by decide +kernel
theorem dX11_look2_2 : decode cX11_look2 2 = .ok (.getfield 133, 3) := by decide +kernel
theorem dX11_look2_5 : decode cX11_look2 5 = .ok (.if_icmp .ge 16, 3) := by decide +kernel
theorem dX11_look2_8 : decode cX11_look2 8 = .ok (.aload_n 0, 1) := by decide +kernel
theorem dX11_look2_9 : decode cX11_look2 9 = .ok (.getfield 24, 3) := by decide +kernel
theorem dX11_look2_12 : decode cX11_look2 12 = .ok (.iload_n 1, 1) := by decide +kernel
theorem dX11_look2_13 : decode cX11_look2 13 = .ok (.baload, 1) := by decide +kernel
theorem dX11_look2_14 : decode cX11_look2 14 = .ok (.sipush 255, 3) := by decide +kernel
theorem dX11_look2_17 : decode cX11_look2 17 = .ok (.iand, 1) := by decide +kernel
theorem dX11_look2_18 : decode cX11_look2 18 = .ok (.goto 4, 3) := by decide +kernel
theorem dX11_look2_21 : decode cX11_look2 21 = .ok (.iconst 0, 1) := by decide +kernel
theorem dX11_look2_22 : decode cX11_look2 22 = .ok (.ireturn, 1) := by decide +kernel
theorem dX11_isLetter_0 : decode cX11_isLetter 0 = .ok (.iload_n 0, 1) := by decide +kernel
theorem dX11_isLetter_1 : decode cX11_isLetter 1 = .ok (.bipush 97, 2) := by decide +kernel
theorem dX11_isLetter_3 : decode cX11_isLetter 3 = .ok (.if_icmp .lt 13, 3) := by decide +kernel
theorem dX11_isLetter_6 : decode cX11_isLetter 6 = .ok (.iload_n 0, 1) := by decide +kernel
theorem dX11_isLetter_7 : decode cX11_isLetter 7 = .ok (.bipush 122, 2) := by decide +kernel
theorem dX11_isLetter_9 : decode cX11_isLetter 9 = .ok (.if_icmp .gt 7, 3) := by decide +kernel
theorem dX11_isLetter_12 : decode cX11_isLetter 12 = .ok (.iconst 1, 1) := by decide +kernel
theorem dX11_isLetter_13 : decode cX11_isLetter 13 = .ok (.goto 4, 3) := by decide +kernel
theorem dX11_isLetter_16 : decode cX11_isLetter 16 = .ok (.iconst 0, 1) := by decide +kernel
theorem dX11_isLetter_17 : decode cX11_isLetter 17 = .ok (.ireturn, 1) := by decide +kernel
theorem dX11_isDigit_0 : decode cX11_isDigit 0 = .ok (.iload_n 0, 1) := by decide +kernel
theorem dX11_isDigit_1 : decode cX11_isDigit 1 = .ok (.bipush 48, 2) := by decide +kernel
theorem dX11_isDigit_3 : decode cX11_isDigit 3 = .ok (.if_icmp .lt 13, 3) := by decide +kernel
theorem dX11_isDigit_6 : decode cX11_isDigit 6 = .ok (.iload_n 0, 1) := by decide +kernel
theorem dX11_isDigit_7 : decode cX11_isDigit 7 = .ok (.bipush 57, 2) := by decide +kernel
theorem dX11_isDigit_9 : decode cX11_isDigit 9 = .ok (.if_icmp .gt 7, 3) := by decide +kernel
theorem dX11_isDigit_12 : decode cX11_isDigit 12 = .ok (.iconst 1, 1) := by decide +kernel
theorem dX11_isDigit_13 : decode cX11_isDigit 13 = .ok (.goto 4, 3) := by decide +kernel
theorem dX11_isDigit_16 : decode cX11_isDigit 16 = .ok (.iconst 0, 1) := by decide +kernel
theorem dX11_isDigit_17 : decode cX11_isDigit 17 = .ok (.ireturn, 1) := by decide +kernel
theorem dX11_isSignByte_0 : decode cX11_isSignByte 0 = .ok (.iload_n 1, 1) := by decide +kernel
theorem dX11_isSignByte_1 : decode cX11_isSignByte 1 = .ok (.bipush 59, 2) := by decide +kernel
theorem dX11_isSignByte_3 : decode cX11_isSignByte 3 = .ok (.if_icmp .eq 21, 3) := by decide +kernel
theorem dX11_isSignByte_6 : decode cX11_isSignByte 6 = .ok (.iload_n 1, 1) := by decide +kernel
theorem dX11_isSignByte_7 : decode cX11_isSignByte 7 = .ok (.bipush 60, 2) := by decide +kernel
theorem dX11_isSignByte_9 : decode cX11_isSignByte 9 = .ok (.if_icmp .eq 15, 3) := by decide +kernel
theorem dX11_isSignByte_12 : decode cX11_isSignByte 12 = .ok (.iload_n 1, 1) := by decide +kernel
theorem dX11_isSignByte_13 : decode cX11_isSignByte 13 = .ok (.bipush 62, 2) := by decide +kernel
theorem dX11_isSignByte_15 : decode cX11_isSignByte 15 = .ok (.if_icmp .eq 9, 3) := by decide +kernel
theorem dX11_isSignByte_18 : decode cX11_isSignByte 18 = .ok (.iload_n 1, 1) := by decide +kernel
theorem dX11_isSignByte_19 : decode cX11_isSignByte 19 = .ok (.bipush 61, 2) := by decide +kernel
theorem dX11_isSignByte_21 : decode cX11_isSignByte 21 = .ok (.if_icmp .ne 7, 3) := by decide +kernel
theorem dX11_isSignByte_24 : decode cX11_isSignByte 24 = .ok (.iconst 1, 1) := by decide +kernel
theorem dX11_isSignByte_25 : decode cX11_isSignByte 25 = .ok (.goto 4, 3) := by decide +kernel
theorem dX11_isSignByte_28 : decode cX11_isSignByte 28 = .ok (.iconst 0, 1) := by decide +kernel
theorem dX11_isSignByte_29 : decode cX11_isSignByte 29 = .ok (.ireturn, 1) := by decide +kernel
theorem dX11_next_0 : decode cX11_next 0 = .ok (.aload_n 0, 1) := by decide +kernel
theorem dX11_next_1 : decode cX11_next 1 = .ok (.aload_n 0, 1) := by decide +kernel
theorem dX11_next_2 : decode cX11_next 2 = .ok (.getfield 136, 3) := by decide +kernel
theorem dX11_next_5 : decode cX11_next 5 = .ok (.putfield 139, 3) := by decide +kernel
theorem dX11_next_8 : decode cX11_next 8 = .ok (.aload_n 0, 1) := by decide +kernel
theorem dX11_next_9 : decode cX11_next 9 = .ok (.getfield 139, 3) := by decide +kernel
theorem dX11_next_12 : decode cX11_next 12 = .ok (.aload_n 0, 1) := by decide +kernel
theorem dX11_next_13 : decode cX11_next 13 = .ok (.getfield 133, 3) := by decide +kernel
theorem dX11_next_16 : decode cX11_next 16 = .ok (.if_icmp .ge 42, 3) := by decide +kernel
theorem dX11_next_19 : decode cX11_next 19 = .ok (.aload_n 0, 1) := by decide +kernel
theorem dX11_next_20 : decode cX11_next 20 = .ok (.aload_n 0, 1) := by decide +kernel
theorem dX11_next_21 : decode cX11_next 21 = .ok (.getfield 139, 3) := by decide +kernel
theorem dX11_next_24 : decode cX11_next 24 = .ok (.invokevirtual 142, 3) := by decide +kernel
theorem dX11_next_27 : decode cX11_next 27 = .ok (.bipush 10, 2) := by decide +kernel
theorem dX11_next_29 : decode cX11_next 29 = .ok (.if_icmp .eq 16, 3) := by decide +kernel
theorem dX11_next_32 : decode cX11_next 32 = .ok (.aload_n 0, 1) := by decide +kernel
theorem dX11_next_33 : decode cX11_next 33 = .ok (.aload_n 0, 1) := by decide +kernel
theorem dX11_next_34 : decode cX11_next 34 = .ok (.getfield 139, 3) := by decide +kernel
theorem dX11_next_37 : decode cX11_next 37 = .ok (.invokevirtual 142, 3) := by decide +kernel
theorem dX11_next_40 : decode cX11_next 40 = .ok (.bipush 32, 2) := by decide +kernel
theorem dX11_next_42 : decode cX11_next 42 = .ok (.if_icmp .ne 16, 3) := by decide +kernel
theorem dX11_next_45 : decode cX11_next 45 = .ok (.aload_n 0, 1) := by decide +kernel
theorem dX11_next_46 : decode cX11_next 46 = .ok (.dup, 1) := by decide +kernel
theorem dX11_next_47 : decode cX11_next 47 = .ok (.getfield 139, 3) := by decide +kernel
theorem dX11_next_50 : decode cX11_next 50 = .ok (.iconst 1, 1) := by decide +kernel
theorem dX11_next_51 : decode cX11_next 51 = .ok (.iadd, 1) := by decide +kernel
theorem dX11_next_52 : decode cX11_next 52 = .ok (.putfield 139, 3) := by decide +kernel
theorem dX11_next_55 : decode cX11_next 55 = .ok (.goto (-47), 3) := by decide +kernel
theorem dX11_next_58 : decode cX11_next 58 = .ok (.aload_n 0, 1) := by decide +kernel
theorem dX11_next_59 : decode cX11_next 59 = .ok (.aload_n 0, 1) := by decide +kernel
theorem dX11_next_60 : decode cX11_next 60 = .ok (.getfield 139, 3) := by decide +kernel
theorem dX11_next_63 : decode cX11_next 63 = .ok (.putfield 136, 3) := by decide +kernel
theorem dX11_next_66 : decode cX11_next 66 = .ok (.aload_n 0, 1) := by decide +kernel
theorem dX11_next_67 : decode cX11_next 67 = .ok (.getfield 139, 3) := by decide +kernel
theorem dX11_next_70 : decode cX11_next 70 = .ok (.aload_n 0, 1) := by decide +kernel
theorem dX11_next_71 : decode cX11_next 71 = .ok (.getfield 133, 3) := by decide +kernel
theorem dX11_next_74 : decode cX11_next 74 = .ok (.if_icmp .lt 9, 3) := by decide +kernel
theorem dX11_next_77 : decode cX11_next 77 = .ok (.aload_n 0, 1) := by decide +kernel
theorem dX11_next_78 : decode cX11_next 78 = .ok (.iconst 0, 1) := by decide +kernel
theorem dX11_next_79 : decode cX11_next 79 = .ok (.putfield 145, 3) := by decide +kernel
theorem dX11_next_82 : decode cX11_next 82 = .ok (.return_, 1) := by decide +kernel
theorem dX11_next_83 : decode cX11_next 83 = .ok (.aload_n 0, 1) := by decide +kernel
theorem dX11_next_84 : decode cX11_next 84 = .ok (.aload_n 0, 1) := by decide +kernel
theorem dX11_next_85 : decode cX11_next 85 = .ok (.getfield 139, 3) := by decide +kernel
theorem dX11_next_88 : decode cX11_next 88 = .ok (.invokevirtual 142, 3) := by decide +kernel
theorem dX11_next_91 : decode cX11_next 91 = .ok (.istore_n 1, 1) := by decide +kernel
theorem dX11_next_92 : decode cX11_next 92 = .ok (.iload_n 1, 1) := by decide +kernel
theorem dX11_next_93 : decode cX11_next 93 = .ok (.invokestatic 148, 3) := by decide +kernel
theorem dX11_next_96 : decode cX11_next 96 = .ok (.ifCond .eq 102, 3) := by decide +kernel
theorem dX11_next_99 : decode cX11_next 99 = .ok (.aload_n 0, 1) := by decide +kernel
theorem dX11_next_100 : decode cX11_next 100 = .ok (.iconst 1, 1) := by decide +kernel
theorem dX11_next_101 : decode cX11_next 101 = .ok (.putfield 145, 3) := by decide +kernel
theorem dX11_next_104 : decode cX11_next 104 = .ok (.aload_n 0, 1) := by decide +kernel
theorem dX11_next_105 : decode cX11_next 105 = .ok (.lconst 0, 1) := by decide +kernel
theorem dX11_next_106 : decode cX11_next 106 = .ok (.putfield 151, 3) := by decide +kernel
theorem dX11_next_109 : decode cX11_next 109 = .ok (.aload_n 0, 1) := by decide +kernel
theorem dX11_next_110 : decode cX11_next 110 = .ok (.aload_n 0, 1) := by decide +kernel
theorem dX11_next_111 : decode cX11_next 111 = .ok (.getfield 136, 3) := by decide +kernel
theorem dX11_next_114 : decode cX11_next 114 = .ok (.invokevirtual 142, 3) := by decide +kernel
theorem dX11_next_117 : decode cX11_next 117 = .ok (.invokestatic 148, 3) := by decide +kernel
theorem dX11_next_120 : decode cX11_next 120 = .ok (.ifCond .eq 62, 3) := by decide +kernel
theorem dX11_next_123 : decode cX11_next 123 = .ok (.aload_n 0, 1) := by decide +kernel
theorem dX11_next_124 : decode cX11_next 124 = .ok (.aload_n 0, 1) := by decide +kernel
theorem dX11_next_125 : decode cX11_next 125 = .ok (.getfield 136, 3) := by decide +kernel
theorem dX11_next_128 : decode cX11_next 128 = .ok (.aload_n 0, 1) := by decide +kernel
theorem dX11_next_129 : decode cX11_next 129 = .ok (.getfield 139, 3) := by decide +kernel
theorem dX11_next_132 : decode cX11_next 132 = .ok (.isub, 1) := by decide +kernel
theorem dX11_next_133 : decode cX11_next 133 = .ok (.bipush 8, 2) := by decide +kernel
theorem dX11_next_135 : decode cX11_next 135 = .ok (.if_icmp .ge 28, 3) := by decide +kernel
theorem dX11_next_138 : decode cX11_next 138 = .ok (.aload_n 0, 1) := by decide +kernel
theorem dX11_next_139 : decode cX11_next 139 = .ok (.getfield 151, 3) := by decide +kernel
theorem dX11_next_142 : decode cX11_next 142 = .ok (.ldc2_w 154, 3) := by decide +kernel
theorem dX11_next_145 : decode cX11_next 145 = .ok (.lmul, 1) := by decide +kernel
theorem dX11_next_146 : decode cX11_next 146 = .ok (.aload_n 0, 1) := by decide +kernel
theorem dX11_next_147 : decode cX11_next 147 = .ok (.aload_n 0, 1) := by decide +kernel
theorem dX11_next_148 : decode cX11_next 148 = .ok (.getfield 136, 3) := by decide +kernel
theorem dX11_next_151 : decode cX11_next 151 = .ok (.invokevirtual 142, 3) := by decide +kernel
theorem dX11_next_154 : decode cX11_next 154 = .ok (.i2l, 1) := by decide +kernel
theorem dX11_next_155 : decode cX11_next 155 = .ok (.ladd, 1) := by decide +kernel
theorem dX11_next_156 : decode cX11_next 156 = .ok (.ldc2_w 156, 3) := by decide +kernel
theorem dX11_next_159 : decode cX11_next 159 = .ok (.lsub, 1) := by decide +kernel
theorem dX11_next_160 : decode cX11_next 160 = .ok (.goto 6, 3) := by decide +kernel
theorem dX11_next_163 : decode cX11_next 163 = .ok (.ldc2_w 125, 3) := by decide +kernel
theorem dX11_next_166 : decode cX11_next 166 = .ok (.putfield 151, 3) := by decide +kernel
theorem dX11_next_169 : decode cX11_next 169 = .ok (.aload_n 0, 1) := by decide +kernel
theorem dX11_next_170 : decode cX11_next 170 = .ok (.dup, 1) := by decide +kernel
theorem dX11_next_171 : decode cX11_next 171 = .ok (.getfield 136, 3) := by decide +kernel
theorem dX11_next_174 : decode cX11_next 174 = .ok (.iconst 1, 1) := by decide +kernel
theorem dX11_next_175 : decode cX11_next 175 = .ok (.iadd, 1) := by decide +kernel
theorem dX11_next_176 : decode cX11_next 176 = .ok (.putfield 136, 3) := by decide +kernel
theorem dX11_next_179 : decode cX11_next 179 = .ok (.goto (-70), 3) := by decide +kernel
theorem dX11_next_182 : decode cX11_next 182 = .ok (.aload_n 0, 1) := by decide +kernel
theorem dX11_next_183 : decode cX11_next 183 = .ok (.aload_n 0, 1) := by decide +kernel
theorem dX11_next_184 : decode cX11_next 184 = .ok (.getfield 136, 3) := by decide +kernel
theorem dX11_next_187 : decode cX11_next 187 = .ok (.aload_n 0, 1) := by decide +kernel
theorem dX11_next_188 : decode cX11_next 188 = .ok (.getfield 139, 3) := by decide +kernel
theorem dX11_next_191 : decode cX11_next 191 = .ok (.isub, 1) := by decide +kernel
theorem dX11_next_192 : decode cX11_next 192 = .ok (.putfield 158, 3) := by decide +kernel
theorem dX11_next_195 : decode cX11_next 195 = .ok (.goto 135, 3) := by decide +kernel
theorem dX11_next_198 : decode cX11_next 198 = .ok (.iload_n 1, 1) := by decide +kernel
theorem dX11_next_199 : decode cX11_next 199 = .ok (.invokestatic 161, 3) := by decide +kernel
theorem dX11_next_202 : decode cX11_next 202 = .ok (.ifCond .eq 96, 3) := by decide +kernel
theorem dX11_next_205 : decode cX11_next 205 = .ok (.aload_n 0, 1) := by decide +kernel
theorem dX11_next_206 : decode cX11_next 206 = .ok (.iconst 0, 1) := by decide +kernel
theorem dX11_next_207 : decode cX11_next 207 = .ok (.putfield 164, 3) := by decide +kernel
theorem dX11_next_210 : decode cX11_next 210 = .ok (.aload_n 0, 1) := by decide +kernel
theorem dX11_next_211 : decode cX11_next 211 = .ok (.aload_n 0, 1) := by decide +kernel
theorem dX11_next_212 : decode cX11_next 212 = .ok (.getfield 136, 3) := by decide +kernel
theorem dX11_next_215 : decode cX11_next 215 = .ok (.invokevirtual 142, 3) := by decide +kernel
theorem dX11_next_218 : decode cX11_next 218 = .ok (.invokestatic 161, 3) := by decide +kernel
theorem dX11_next_221 : decode cX11_next 221 = .ok (.ifCond .eq 52, 3) := by decide +kernel
theorem dX11_next_224 : decode cX11_next 224 = .ok (.aload_n 0, 1) := by decide +kernel
theorem dX11_next_225 : decode cX11_next 225 = .ok (.getfield 136, 3) := by decide +kernel
theorem dX11_next_228 : decode cX11_next 228 = .ok (.aload_n 0, 1) := by decide +kernel
theorem dX11_next_229 : decode cX11_next 229 = .ok (.getfield 139, 3) := by decide +kernel
theorem dX11_next_232 : decode cX11_next 232 = .ok (.isub, 1) := by decide +kernel
theorem dX11_next_233 : decode cX11_next 233 = .ok (.iconst 4, 1) := by decide +kernel
theorem dX11_next_234 : decode cX11_next 234 = .ok (.if_icmp .ge 26, 3) := by decide +kernel
theorem dX11_next_237 : decode cX11_next 237 = .ok (.aload_n 0, 1) := by decide +kernel
theorem dX11_next_238 : decode cX11_next 238 = .ok (.bipush 10, 2) := by decide +kernel
theorem dX11_next_240 : decode cX11_next 240 = .ok (.aload_n 0, 1) := by decide +kernel
theorem dX11_next_241 : decode cX11_next 241 = .ok (.getfield 164, 3) := by decide +kernel
theorem dX11_next_244 : decode cX11_next 244 = .ok (.imul, 1) := by decide +kernel
theorem dX11_next_245 : decode cX11_next 245 = .ok (.aload_n 0, 1) := by decide +kernel
theorem dX11_next_246 : decode cX11_next 246 = .ok (.aload_n 0, 1) := by decide +kernel
theorem dX11_next_247 : decode cX11_next 247 = .ok (.getfield 136, 3) := by decide +kernel
theorem dX11_next_250 : decode cX11_next 250 = .ok (.invokevirtual 142, 3) := by decide +kernel
theorem dX11_next_253 : decode cX11_next 253 = .ok (.iadd, 1) := by decide +kernel
theorem dX11_next_254 : decode cX11_next 254 = .ok (.bipush 48, 2) := by decide +kernel
theorem dX11_next_256 : decode cX11_next 256 = .ok (.isub, 1) := by decide +kernel
theorem dX11_next_257 : decode cX11_next 257 = .ok (.putfield 164, 3) := by decide +kernel
theorem dX11_next_260 : decode cX11_next 260 = .ok (.aload_n 0, 1) := by decide +kernel
theorem dX11_next_261 : decode cX11_next 261 = .ok (.dup, 1) := by decide +kernel
theorem dX11_next_262 : decode cX11_next 262 = .ok (.getfield 136, 3) := by decide +kernel
theorem dX11_next_265 : decode cX11_next 265 = .ok (.iconst 1, 1) := by decide +kernel
theorem dX11_next_266 : decode cX11_next 266 = .ok (.iadd, 1) := by decide +kernel
theorem dX11_next_267 : decode cX11_next 267 = .ok (.putfield 136, 3) := by decide +kernel
theorem dX11_next_270 : decode cX11_next 270 = .ok (.goto (-60), 3) := by decide +kernel
theorem dX11_next_273 : decode cX11_next 273 = .ok (.aload_n 0, 1) := by decide +kernel
theorem dX11_next_274 : decode cX11_next 274 = .ok (.aload_n 0, 1) := by decide +kernel
theorem dX11_next_275 : decode cX11_next 275 = .ok (.getfield 136, 3) := by decide +kernel
theorem dX11_next_278 : decode cX11_next 278 = .ok (.aload_n 0, 1) := by decide +kernel
theorem dX11_next_279 : decode cX11_next 279 = .ok (.getfield 139, 3) := by decide +kernel
theorem dX11_next_282 : decode cX11_next 282 = .ok (.isub, 1) := by decide +kernel
theorem dX11_next_283 : decode cX11_next 283 = .ok (.iconst 4, 1) := by decide +kernel
theorem dX11_next_284 : decode cX11_next 284 = .ok (.if_icmp .le 7, 3) := by decide +kernel
theorem dX11_next_287 : decode cX11_next 287 = .ok (.iconst 4, 1) := by decide +kernel
theorem dX11_next_288 : decode cX11_next 288 = .ok (.goto 4, 3) := by decide +kernel
theorem dX11_next_291 : decode cX11_next 291 = .ok (.iconst 2, 1) := by decide +kernel
theorem dX11_next_292 : decode cX11_next 292 = .ok (.putfield 145, 3) := by decide +kernel
theorem dX11_next_295 : decode cX11_next 295 = .ok (.goto 35, 3) := by decide +kernel
theorem dX11_next_298 : decode cX11_next 298 = .ok (.aload_n 0, 1) := by decide +kernel
theorem dX11_next_299 : decode cX11_next 299 = .ok (.aload_n 0, 1) := by decide +kernel
theorem dX11_next_300 : decode cX11_next 300 = .ok (.getfield 139, 3) := by decide +kernel
theorem dX11_next_303 : decode cX11_next 303 = .ok (.iconst 1, 1) := by decide +kernel
theorem dX11_next_304 : decode cX11_next 304 = .ok (.iadd, 1) := by decide +kernel
theorem dX11_next_305 : decode cX11_next 305 = .ok (.putfield 136, 3) := by decide +kernel
theorem dX11_next_308 : decode cX11_next 308 = .ok (.aload_n 0, 1) := by decide +kernel
theorem dX11_next_309 : decode cX11_next 309 = .ok (.iload_n 1, 1) := by decide +kernel
theorem dX11_next_310 : decode cX11_next 310 = .ok (.putfield 164, 3) := by decide +kernel
theorem dX11_next_313 : decode cX11_next 313 = .ok (.aload_n 0, 1) := by decide +kernel
theorem dX11_next_314 : decode cX11_next 314 = .ok (.aload_n 0, 1) := by decide +kernel
theorem dX11_next_315 : decode cX11_next 315 = .ok (.iload_n 1, 1) := by decide +kernel
theorem dX11_next_316 : decode cX11_next 316 = .ok (.invokevirtual 167, 3) := by decide +kernel
theorem dX11_next_319 : decode cX11_next 319 = .ok (.ifCond .eq 7, 3) := by decide +kernel
theorem dX11_next_322 : decode cX11_next 322 = .ok (.iconst 3, 1) := by decide +kernel
theorem dX11_next_323 : decode cX11_next 323 = .ok (.goto 4, 3) := by decide +kernel
theorem dX11_next_326 : decode cX11_next 326 = .ok (.iconst 4, 1) := by decide +kernel
theorem dX11_next_327 : decode cX11_next 327 = .ok (.putfield 145, 3) := by decide +kernel
theorem dX11_next_330 : decode cX11_next 330 = .ok (.return_, 1) := by decide +kernel
theorem dX11_isSign_0 : decode cX11_isSign 0 = .ok (.aload_n 0, 1) := by decide +kernel
theorem dX11_isSign_1 : decode cX11_isSign 1 = .ok (.getfield 145, 3) := by decide +kernel
theorem dX11_isSign_4 : decode cX11_isSign 4 = .ok (.iconst 3, 1) := by decide +kernel
theorem dX11_isSign_5 : decode cX11_isSign 5 = .ok (.if_icmp .ne 15, 3) := by decide +kernel
theorem dX11_isSign_8 : decode cX11_isSign 8 = .ok (.aload_n 0, 1) := by decide +kernel
theorem dX11_isSign_9 : decode cX11_isSign 9 = .ok (.getfield 164, 3) := by decide +kernel
theorem dX11_isSign_12 : decode cX11_isSign 12 = .ok (.iload_n 1, 1) := by decide +kernel
theorem dX11_isSign_13 : decode cX11_isSign 13 = .ok (.if_icmp .ne 7, 3) := by decide +kernel
theorem dX11_isSign_16 : decode cX11_isSign 16 = .ok (.iconst 1, 1) := by decide +kernel
theorem dX11_isSign_17 : decode cX11_isSign 17 = .ok (.goto 4, 3) := by decide +kernel
theorem dX11_isSign_20 : decode cX11_isSign 20 = .ok (.iconst 0, 1) := by decide +kernel
theorem dX11_isSign_21 : decode cX11_isSign 21 = .ok (.ireturn, 1) := by decide +kernel
theorem dX11_spelled_0 : decode cX11_spelled 0 = .ok (.iload_n 0, 1) := by decide +kernel
theorem dX11_spelled_1 : decode cX11_spelled 1 = .ok (.i2l, 1) := by decide +kernel
theorem dX11_spelled_2 : decode cX11_spelled 2 = .ok (.ldc2_w 156, 3) := by decide +kernel
theorem dX11_spelled_5 : decode cX11_spelled 5 = .ok (.lsub, 1) := by decide +kernel
theorem dX11_spelled_6 : decode cX11_spelled 6 = .ok (.ldc2_w 154, 3) := by decide +kernel
theorem dX11_spelled_9 : decode cX11_spelled 9 = .ok (.lmul, 1) := by decide +kernel
theorem dX11_spelled_10 : decode cX11_spelled 10 = .ok (.iload_n 1, 1) := by decide +kernel
theorem dX11_spelled_11 : decode cX11_spelled 11 = .ok (.i2l, 1) := by decide +kernel
theorem dX11_spelled_12 : decode cX11_spelled 12 = .ok (.ladd, 1) := by decide +kernel
theorem dX11_spelled_13 : decode cX11_spelled 13 = .ok (.ldc2_w 156, 3) := by decide +kernel
theorem dX11_spelled_16 : decode cX11_spelled 16 = .ok (.lsub, 1) := by decide +kernel
theorem dX11_spelled_17 : decode cX11_spelled 17 = .ok (.lstore 6, 2) := by decide +kernel
theorem dX11_spelled_19 : decode cX11_spelled 19 = .ok (.iload_n 2, 1) := by decide +kernel
theorem dX11_spelled_20 : decode cX11_spelled 20 = .ok (.ifCond .le 19, 3) := by decide +kernel
theorem dX11_spelled_23 : decode cX11_spelled 23 = .ok (.lload 6, 2) := by decide +kernel
theorem dX11_spelled_25 : decode cX11_spelled 25 = .ok (.ldc2_w 154, 3) := by decide +kernel
theorem dX11_spelled_28 : decode cX11_spelled 28 = .ok (.lmul, 1) := by decide +kernel
theorem dX11_spelled_29 : decode cX11_spelled 29 = .ok (.iload_n 2, 1) := by decide +kernel
theorem dX11_spelled_30 : decode cX11_spelled 30 = .ok (.i2l, 1) := by decide +kernel
theorem dX11_spelled_31 : decode cX11_spelled 31 = .ok (.ladd, 1) := by decide +kernel
theorem dX11_spelled_32 : decode cX11_spelled 32 = .ok (.ldc2_w 156, 3) := by decide +kernel
theorem dX11_spelled_35 : decode cX11_spelled 35 = .ok (.lsub, 1) := by decide +kernel
theorem dX11_spelled_36 : decode cX11_spelled 36 = .ok (.goto 5, 3) := by decide +kernel
theorem dX11_spelled_39 : decode cX11_spelled 39 = .ok (.lload 6, 2) := by decide +kernel
theorem dX11_spelled_41 : decode cX11_spelled 41 = .ok (.lstore 6, 2) := by decide +kernel
theorem dX11_spelled_43 : decode cX11_spelled 43 = .ok (.iload_n 3, 1) := by decide +kernel
theorem dX11_spelled_44 : decode cX11_spelled 44 = .ok (.ifCond .le 19, 3) := by decide +kernel
theorem dX11_spelled_47 : decode cX11_spelled 47 = .ok (.lload 6, 2) := by decide +kernel
theorem dX11_spelled_49 : decode cX11_spelled 49 = .ok (.ldc2_w 154, 3) := by decide +kernel
theorem dX11_spelled_52 : decode cX11_spelled 52 = .ok (.lmul, 1) := by decide +kernel
theorem dX11_spelled_53 : decode cX11_spelled 53 = .ok (.iload_n 3, 1) := by decide +kernel
theorem dX11_spelled_54 : decode cX11_spelled 54 = .ok (.i2l, 1) := by decide +kernel
theorem dX11_spelled_55 : decode cX11_spelled 55 = .ok (.ladd, 1) := by decide +kernel
theorem dX11_spelled_56 : decode cX11_spelled 56 = .ok (.ldc2_w 156, 3) := by decide +kernel
theorem dX11_spelled_59 : decode cX11_spelled 59 = .ok (.lsub, 1) := by decide +kernel
theorem dX11_spelled_60 : decode cX11_spelled 60 = .ok (.goto 5, 3) := by decide +kernel
theorem dX11_spelled_63 : decode cX11_spelled 63 = .ok (.lload 6, 2) := by decide +kernel
theorem dX11_spelled_65 : decode cX11_spelled 65 = .ok (.lstore 6, 2) := by decide +kernel
theorem dX11_spelled_67 : decode cX11_spelled 67 = .ok (.iload 4, 2) := by decide +kernel
theorem dX11_spelled_69 : decode cX11_spelled 69 = .ok (.ifCond .le 20, 3) := by decide +kernel
theorem dX11_spelled_72 : decode cX11_spelled 72 = .ok (.lload 6, 2) := by decide +kernel
theorem dX11_spelled_74 : decode cX11_spelled 74 = .ok (.ldc2_w 154, 3) := by decide +kernel
theorem dX11_spelled_77 : decode cX11_spelled 77 = .ok (.lmul, 1) := by decide +kernel
theorem dX11_spelled_78 : decode cX11_spelled 78 = .ok (.iload 4, 2) := by decide +kernel
theorem dX11_spelled_80 : decode cX11_spelled 80 = .ok (.i2l, 1) := by decide +kernel
theorem dX11_spelled_81 : decode cX11_spelled 81 = .ok (.ladd, 1) := by decide +kernel
theorem dX11_spelled_82 : decode cX11_spelled 82 = .ok (.ldc2_w 156, 3) := by decide +kernel
theorem dX11_spelled_85 : decode cX11_spelled 85 = .ok (.lsub, 1) := by decide +kernel
theorem dX11_spelled_86 : decode cX11_spelled 86 = .ok (.goto 5, 3) := by decide +kernel
theorem dX11_spelled_89 : decode cX11_spelled 89 = .ok (.lload 6, 2) := by decide +kernel
theorem dX11_spelled_91 : decode cX11_spelled 91 = .ok (.lstore 6, 2) := by decide +kernel
theorem dX11_spelled_93 : decode cX11_spelled 93 = .ok (.iload 5, 2) := by decide +kernel
theorem dX11_spelled_95 : decode cX11_spelled 95 = .ok (.ifCond .le 20, 3) := by decide +kernel
theorem dX11_spelled_98 : decode cX11_spelled 98 = .ok (.lload 6, 2) := by decide +kernel
theorem dX11_spelled_100 : decode cX11_spelled 100 = .ok (.ldc2_w 154, 3) := by decide +kernel
theorem dX11_spelled_103 : decode cX11_spelled 103 = .ok (.lmul, 1) := by decide +kernel
theorem dX11_spelled_104 : decode cX11_spelled 104 = .ok (.iload 5, 2) := by decide +kernel
theorem dX11_spelled_106 : decode cX11_spelled 106 = .ok (.i2l, 1) := by decide +kernel
theorem dX11_spelled_107 : decode cX11_spelled 107 = .ok (.ladd, 1) := by decide +kernel
theorem dX11_spelled_108 : decode cX11_spelled 108 = .ok (.ldc2_w 156, 3) := by decide +kernel
theorem dX11_spelled_111 : decode cX11_spelled 111 = .ok (.lsub, 1) := by decide +kernel
theorem dX11_spelled_112 : decode cX11_spelled 112 = .ok (.goto 5, 3) := by decide +kernel
theorem dX11_spelled_115 : decode cX11_spelled 115 = .ok (.lload 6, 2) := by decide +kernel
theorem dX11_spelled_117 : decode cX11_spelled 117 = .ok (.lreturn, 1) := by decide +kernel
theorem dX11_isWord_0 : decode cX11_isWord 0 = .ok (.aload_n 0, 1) := by decide +kernel
theorem dX11_isWord_1 : decode cX11_isWord 1 = .ok (.getfield 145, 3) := by decide +kernel
theorem dX11_isWord_4 : decode cX11_isWord 4 = .ok (.iconst 1, 1) := by decide +kernel
theorem dX11_isWord_5 : decode cX11_isWord 5 = .ok (.if_icmp .ne 16, 3) := by decide +kernel
theorem dX11_isWord_8 : decode cX11_isWord 8 = .ok (.aload_n 0, 1) := by decide +kernel
theorem dX11_isWord_9 : decode cX11_isWord 9 = .ok (.getfield 151, 3) := by decide +kernel
theorem dX11_isWord_12 : decode cX11_isWord 12 = .ok (.lload_n 1, 1) := by decide +kernel
theorem dX11_isWord_13 : decode cX11_isWord 13 = .ok (.lcmp, 1) := by decide +kernel
theorem dX11_isWord_14 : decode cX11_isWord 14 = .ok (.ifCond .ne 7, 3) := by decide +kernel
theorem dX11_isWord_17 : decode cX11_isWord 17 = .ok (.iconst 1, 1) := by decide +kernel
theorem dX11_isWord_18 : decode cX11_isWord 18 = .ok (.goto 4, 3) := by decide +kernel
theorem dX11_isWord_21 : decode cX11_isWord 21 = .ok (.iconst 0, 1) := by decide +kernel
theorem dX11_isWord_22 : decode cX11_isWord 22 = .ok (.ireturn, 1) := by decide +kernel
theorem dX11_isMaster_0 : decode cX11_isMaster 0 = .ok (.aload_n 0, 1) := by decide +kernel
theorem dX11_isMaster_1 : decode cX11_isMaster 1 = .ok (.bipush 109, 2) := by decide +kernel
theorem dX11_isMaster_3 : decode cX11_isMaster 3 = .ok (.bipush 97, 2) := by decide +kernel
theorem dX11_isMaster_5 : decode cX11_isMaster 5 = .ok (.bipush 115, 2) := by decide +kernel
theorem dX11_isMaster_7 : decode cX11_isMaster 7 = .ok (.bipush 116, 2) := by decide +kernel
theorem dX11_isMaster_9 : decode cX11_isMaster 9 = .ok (.bipush 101, 2) := by decide +kernel
theorem dX11_isMaster_11 : decode cX11_isMaster 11 = .ok (.bipush 114, 2) := by decide +kernel
theorem dX11_isMaster_13 : decode cX11_isMaster 13 = .ok (.invokestatic 170, 3) := by decide +kernel
theorem dX11_isMaster_16 : decode cX11_isMaster 16 = .ok (.invokevirtual 174, 3) := by decide +kernel
theorem dX11_isMaster_19 : decode cX11_isMaster 19 = .ok (.ireturn, 1) := by decide +kernel
theorem dX11_isLesson_0 : decode cX11_isLesson 0 = .ok (.aload_n 0, 1) := by decide +kernel
theorem dX11_isLesson_1 : decode cX11_isLesson 1 = .ok (.bipush 108, 2) := by decide +kernel
theorem dX11_isLesson_3 : decode cX11_isLesson 3 = .ok (.bipush 101, 2) := by decide +kernel
theorem dX11_isLesson_5 : decode cX11_isLesson 5 = .ok (.bipush 115, 2) := by decide +kernel
theorem dX11_isLesson_7 : decode cX11_isLesson 7 = .ok (.bipush 115, 2) := by decide +kernel
theorem dX11_isLesson_9 : decode cX11_isLesson 9 = .ok (.bipush 111, 2) := by decide +kernel
theorem dX11_isLesson_11 : decode cX11_isLesson 11 = .ok (.bipush 110, 2) := by decide +kernel
theorem dX11_isLesson_13 : decode cX11_isLesson 13 = .ok (.invokestatic 170, 3) := by decide +kernel
theorem dX11_isLesson_16 : decode cX11_isLesson 16 = .ok (.invokevirtual 174, 3) := by decide +kernel
theorem dX11_isLesson_19 : decode cX11_isLesson 19 = .ok (.ireturn, 1) := by decide +kernel
theorem dX11_isGives_0 : decode cX11_isGives 0 = .ok (.aload_n 0, 1) := by decide +kernel
theorem dX11_isGives_1 : decode cX11_isGives 1 = .ok (.bipush 103, 2) := by decide +kernel
theorem dX11_isGives_3 : decode cX11_isGives 3 = .ok (.bipush 105, 2) := by decide +kernel
theorem dX11_isGives_5 : decode cX11_isGives 5 = .ok (.bipush 118, 2) := by decide +kernel
theorem dX11_isGives_7 : decode cX11_isGives 7 = .ok (.bipush 101, 2) := by decide +kernel
theorem dX11_isGives_9 : decode cX11_isGives 9 = .ok (.bipush 115, 2) := by decide +kernel
theorem dX11_isGives_11 : decode cX11_isGives 11 = .ok (.iconst 0, 1) := by decide +kernel
theorem dX11_isGives_12 : decode cX11_isGives 12 = .ok (.invokestatic 170, 3) := by decide +kernel
theorem dX11_isGives_15 : decode cX11_isGives 15 = .ok (.invokevirtual 174, 3) := by decide +kernel
theorem dX11_isGives_18 : decode cX11_isGives 18 = .ok (.ireturn, 1) := by decide +kernel
theorem dX11_isTakes_0 : decode cX11_isTakes 0 = .ok (.aload_n 0, 1) := by decide +kernel
theorem dX11_isTakes_1 : decode cX11_isTakes 1 = .ok (.bipush 116, 2) := by decide +kernel
theorem dX11_isTakes_3 : decode cX11_isTakes 3 = .ok (.bipush 97, 2) := by decide +kernel
theorem dX11_isTakes_5 : decode cX11_isTakes 5 = .ok (.bipush 107, 2) := by decide +kernel
theorem dX11_isTakes_7 : decode cX11_isTakes 7 = .ok (.bipush 101, 2) := by decide +kernel
theorem dX11_isTakes_9 : decode cX11_isTakes 9 = .ok (.bipush 115, 2) := by decide +kernel
theorem dX11_isTakes_11 : decode cX11_isTakes 11 = .ok (.iconst 0, 1) := by decide +kernel
theorem dX11_isTakes_12 : decode cX11_isTakes 12 = .ok (.invokestatic 170, 3) := by decide +kernel
theorem dX11_isTakes_15 : decode cX11_isTakes 15 = .ok (.invokevirtual 174, 3) := by decide +kernel
theorem dX11_isTakes_18 : decode cX11_isTakes 18 = .ok (.ireturn, 1) := by decide +kernel
theorem dX11_isCosts_0 : decode cX11_isCosts 0 = .ok (.aload_n 0, 1) := by decide +kernel
theorem dX11_isCosts_1 : decode cX11_isCosts 1 = .ok (.bipush 99, 2) := by decide +kernel
theorem dX11_isCosts_3 : decode cX11_isCosts 3 = .ok (.bipush 111, 2) := by decide +kernel
theorem dX11_isCosts_5 : decode cX11_isCosts 5 = .ok (.bipush 115, 2) := by decide +kernel
theorem dX11_isCosts_7 : decode cX11_isCosts 7 = .ok (.bipush 116, 2) := by decide +kernel
theorem dX11_isCosts_9 : decode cX11_isCosts 9 = .ok (.bipush 115, 2) := by decide +kernel
theorem dX11_isCosts_11 : decode cX11_isCosts 11 = .ok (.iconst 0, 1) := by decide +kernel
theorem dX11_isCosts_12 : decode cX11_isCosts 12 = .ok (.invokestatic 170, 3) := by decide +kernel
theorem dX11_isCosts_15 : decode cX11_isCosts 15 = .ok (.invokevirtual 174, 3) := by decide +kernel
theorem dX11_isCosts_18 : decode cX11_isCosts 18 = .ok (.ireturn, 1) := by decide +kernel
theorem dX11_isBy_0 : decode cX11_isBy 0 = .ok (.aload_n 0, 1) := by decide +kernel
theorem dX11_isBy_1 : decode cX11_isBy 1 = .ok (.bipush 98, 2) := by decide +kernel
theorem dX11_isBy_3 : decode cX11_isBy 3 = .ok (.bipush 121, 2) := by decide +kernel
theorem dX11_isBy_5 : decode cX11_isBy 5 = .ok (.iconst 0, 1) := by decide +kernel
theorem dX11_isBy_6 : decode cX11_isBy 6 = .ok (.iconst 0, 1) := by decide +kernel
theorem dX11_isBy_7 : decode cX11_isBy 7 = .ok (.iconst 0, 1) := by decide +kernel
theorem dX11_isBy_8 : decode cX11_isBy 8 = .ok (.iconst 0, 1) := by decide +kernel
theorem dX11_isBy_9 : decode cX11_isBy 9 = .ok (.invokestatic 170, 3) := by decide +kernel
theorem dX11_isBy_12 : decode cX11_isBy 12 = .ok (.invokevirtual 174, 3) := by decide +kernel
theorem dX11_isBy_15 : decode cX11_isBy 15 = .ok (.ireturn, 1) := by decide +kernel
theorem dX11_isNeeds_0 : decode cX11_isNeeds 0 = .ok (.aload_n 0, 1) := by decide +kernel
theorem dX11_isNeeds_1 : decode cX11_isNeeds 1 = .ok (.bipush 110, 2) := by decide +kernel
theorem dX11_isNeeds_3 : decode cX11_isNeeds 3 = .ok (.bipush 101, 2) := by decide +kernel
theorem dX11_isNeeds_5 : decode cX11_isNeeds 5 = .ok (.bipush 101, 2) := by decide +kernel
theorem dX11_isNeeds_7 : decode cX11_isNeeds 7 = .ok (.bipush 100, 2) := by decide +kernel
theorem dX11_isNeeds_9 : decode cX11_isNeeds 9 = .ok (.bipush 115, 2) := by decide +kernel
theorem dX11_isNeeds_11 : decode cX11_isNeeds 11 = .ok (.iconst 0, 1) := by decide +kernel
theorem dX11_isNeeds_12 : decode cX11_isNeeds 12 = .ok (.invokestatic 170, 3) := by decide +kernel
theorem dX11_isNeeds_15 : decode cX11_isNeeds 15 = .ok (.invokevirtual 174, 3) := by decide +kernel
theorem dX11_isNeeds_18 : decode cX11_isNeeds 18 = .ok (.ireturn, 1) := by decide +kernel
theorem dX11_isChild_0 : decode cX11_isChild 0 = .ok (.aload_n 0, 1) := by decide +kernel
theorem dX11_isChild_1 : decode cX11_isChild 1 = .ok (.bipush 99, 2) := by decide +kernel
theorem dX11_isChild_3 : decode cX11_isChild 3 = .ok (.bipush 104, 2) := by decide +kernel
theorem dX11_isChild_5 : decode cX11_isChild 5 = .ok (.bipush 105, 2) := by decide +kernel
theorem dX11_isChild_7 : decode cX11_isChild 7 = .ok (.bipush 108, 2) := by decide +kernel
theorem dX11_isChild_9 : decode cX11_isChild 9 = .ok (.bipush 100, 2) := by decide +kernel
theorem dX11_isChild_11 : decode cX11_isChild 11 = .ok (.iconst 0, 1) := by decide +kernel
theorem dX11_isChild_12 : decode cX11_isChild 12 = .ok (.invokestatic 170, 3) := by decide +kernel
theorem dX11_isChild_15 : decode cX11_isChild 15 = .ok (.invokevirtual 174, 3) := by decide +kernel
theorem dX11_isChild_18 : decode cX11_isChild 18 = .ok (.ireturn, 1) := by decide +kernel
theorem dX11_isGift_0 : decode cX11_isGift 0 = .ok (.aload_n 0, 1) := by decide +kernel
theorem dX11_isGift_1 : decode cX11_isGift 1 = .ok (.bipush 103, 2) := by decide +kernel
theorem dX11_isGift_3 : decode cX11_isGift 3 = .ok (.bipush 105, 2) := by decide +kernel
theorem dX11_isGift_5 : decode cX11_isGift 5 = .ok (.bipush 102, 2) := by decide +kernel
theorem dX11_isGift_7 : decode cX11_isGift 7 = .ok (.bipush 116, 2) := by decide +kernel
theorem dX11_isGift_9 : decode cX11_isGift 9 = .ok (.iconst 0, 1) := by decide +kernel
theorem dX11_isGift_10 : decode cX11_isGift 10 = .ok (.iconst 0, 1) := by decide +kernel
theorem dX11_isGift_11 : decode cX11_isGift 11 = .ok (.invokestatic 170, 3) := by decide +kernel
theorem dX11_isGift_14 : decode cX11_isGift 14 = .ok (.invokevirtual 174, 3) := by decide +kernel
theorem dX11_isGift_17 : decode cX11_isGift 17 = .ok (.ireturn, 1) := by decide +kernel
theorem dX11_isPurse_0 : decode cX11_isPurse 0 = .ok (.aload_n 0, 1) := by decide +kernel
theorem dX11_isPurse_1 : decode cX11_isPurse 1 = .ok (.bipush 112, 2) := by decide +kernel
theorem dX11_isPurse_3 : decode cX11_isPurse 3 = .ok (.bipush 117, 2) := by decide +kernel
theorem dX11_isPurse_5 : decode cX11_isPurse 5 = .ok (.bipush 114, 2) := by decide +kernel
theorem dX11_isPurse_7 : decode cX11_isPurse 7 = .ok (.bipush 115, 2) := by decide +kernel
theorem dX11_isPurse_9 : decode cX11_isPurse 9 = .ok (.bipush 101, 2) := by decide +kernel
theorem dX11_isPurse_11 : decode cX11_isPurse 11 = .ok (.iconst 0, 1) := by decide +kernel
theorem dX11_isPurse_12 : decode cX11_isPurse 12 = .ok (.invokestatic 170, 3) := by decide +kernel
theorem dX11_isPurse_15 : decode cX11_isPurse 15 = .ok (.invokevirtual 174, 3) := by decide +kernel
theorem dX11_isPurse_18 : decode cX11_isPurse 18 = .ok (.ireturn, 1) := by decide +kernel
theorem dX11_isSounds_0 : decode cX11_isSounds 0 = .ok (.aload_n 0, 1) := by decide +kernel
theorem dX11_isSounds_1 : decode cX11_isSounds 1 = .ok (.bipush 115, 2) := by decide +kernel
theorem dX11_isSounds_3 : decode cX11_isSounds 3 = .ok (.bipush 111, 2) := by decide +kernel
theorem dX11_isSounds_5 : decode cX11_isSounds 5 = .ok (.bipush 117, 2) := by decide +kernel
theorem dX11_isSounds_7 : decode cX11_isSounds 7 = .ok (.bipush 110, 2) := by decide +kernel
theorem dX11_isSounds_9 : decode cX11_isSounds 9 = .ok (.bipush 100, 2) := by decide +kernel
theorem dX11_isSounds_11 : decode cX11_isSounds 11 = .ok (.bipush 115, 2) := by decide +kernel
theorem dX11_isSounds_13 : decode cX11_isSounds 13 = .ok (.invokestatic 170, 3) := by decide +kernel
theorem dX11_isSounds_16 : decode cX11_isSounds 16 = .ok (.invokevirtual 174, 3) := by decide +kernel
theorem dX11_isSounds_19 : decode cX11_isSounds 19 = .ok (.ireturn, 1) := by decide +kernel
theorem dX11_stepWord_0 : decode cX11_stepWord 0 = .ok (.aload_n 0, 1) := by decide +kernel
theorem dX11_stepWord_1 : decode cX11_stepWord 1 = .ok (.bipush 108, 2) := by decide +kernel
theorem dX11_stepWord_3 : decode cX11_stepWord 3 = .ok (.bipush 101, 2) := by decide +kernel
theorem dX11_stepWord_5 : decode cX11_stepWord 5 = .ok (.bipush 97, 2) := by decide +kernel
theorem dX11_stepWord_7 : decode cX11_stepWord 7 = .ok (.bipush 114, 2) := by decide +kernel
theorem dX11_stepWord_9 : decode cX11_stepWord 9 = .ok (.bipush 110, 2) := by decide +kernel
theorem dX11_stepWord_11 : decode cX11_stepWord 11 = .ok (.iconst 0, 1) := by decide +kernel
theorem dX11_stepWord_12 : decode cX11_stepWord 12 = .ok (.invokestatic 170, 3) := by decide +kernel
theorem dX11_stepWord_15 : decode cX11_stepWord 15 = .ok (.invokevirtual 174, 3) := by decide +kernel
theorem dX11_stepWord_18 : decode cX11_stepWord 18 = .ok (.ifCond .eq 5, 3) := by decide +kernel
theorem dX11_stepWord_21 : decode cX11_stepWord 21 = .ok (.iconst 0, 1) := by decide +kernel
theorem dX11_stepWord_22 : decode cX11_stepWord 22 = .ok (.ireturn, 1) := by decide +kernel
theorem dX11_stepWord_23 : decode cX11_stepWord 23 = .ok (.aload_n 0, 1) := by decide +kernel
theorem dX11_stepWord_24 : decode cX11_stepWord 24 = .ok (.bipush 108, 2) := by decide +kernel
theorem dX11_stepWord_26 : decode cX11_stepWord 26 = .ok (.bipush 111, 2) := by decide +kernel
theorem dX11_stepWord_28 : decode cX11_stepWord 28 = .ok (.bipush 115, 2) := by decide +kernel
theorem dX11_stepWord_30 : decode cX11_stepWord 30 = .ok (.bipush 101, 2) := by decide +kernel
theorem dX11_stepWord_32 : decode cX11_stepWord 32 = .ok (.iconst 0, 1) := by decide +kernel
theorem dX11_stepWord_33 : decode cX11_stepWord 33 = .ok (.iconst 0, 1) := by decide +kernel
theorem dX11_stepWord_34 : decode cX11_stepWord 34 = .ok (.invokestatic 170, 3) := by decide +kernel
theorem dX11_stepWord_37 : decode cX11_stepWord 37 = .ok (.invokevirtual 174, 3) := by decide +kernel
theorem dX11_stepWord_40 : decode cX11_stepWord 40 = .ok (.ifCond .eq 5, 3) := by decide +kernel
theorem dX11_stepWord_43 : decode cX11_stepWord 43 = .ok (.iconst 1, 1) := by decide +kernel
theorem dX11_stepWord_44 : decode cX11_stepWord 44 = .ok (.ireturn, 1) := by decide +kernel
theorem dX11_stepWord_45 : decode cX11_stepWord 45 = .ok (.aload_n 0, 1) := by decide +kernel
theorem dX11_stepWord_46 : decode cX11_stepWord 46 = .ok (.bipush 102, 2) := by decide +kernel
theorem dX11_stepWord_48 : decode cX11_stepWord 48 = .ok (.bipush 97, 2) := by decide +kernel
theorem dX11_stepWord_50 : decode cX11_stepWord 50 = .ok (.bipush 116, 2) := by decide +kernel
theorem dX11_stepWord_52 : decode cX11_stepWord 52 = .ok (.bipush 101, 2) := by decide +kernel
theorem dX11_stepWord_54 : decode cX11_stepWord 54 = .ok (.iconst 0, 1) := by decide +kernel
theorem dX11_stepWord_55 : decode cX11_stepWord 55 = .ok (.iconst 0, 1) := by decide +kernel
theorem dX11_stepWord_56 : decode cX11_stepWord 56 = .ok (.invokestatic 170, 3) := by decide +kernel
theorem dX11_stepWord_59 : decode cX11_stepWord 59 = .ok (.invokevirtual 174, 3) := by decide +kernel
theorem dX11_stepWord_62 : decode cX11_stepWord 62 = .ok (.ifCond .eq 5, 3) := by decide +kernel
theorem dX11_stepWord_65 : decode cX11_stepWord 65 = .ok (.iconst 2, 1) := by decide +kernel
theorem dX11_stepWord_66 : decode cX11_stepWord 66 = .ok (.ireturn, 1) := by decide +kernel
theorem dX11_stepWord_67 : decode cX11_stepWord 67 = .ok (.aload_n 0, 1) := by decide +kernel
theorem dX11_stepWord_68 : decode cX11_stepWord 68 = .ok (.bipush 114, 2) := by decide +kernel
theorem dX11_stepWord_70 : decode cX11_stepWord 70 = .ok (.bipush 101, 2) := by decide +kernel
theorem dX11_stepWord_72 : decode cX11_stepWord 72 = .ok (.bipush 115, 2) := by decide +kernel
theorem dX11_stepWord_74 : decode cX11_stepWord 74 = .ok (.bipush 116, 2) := by decide +kernel
theorem dX11_stepWord_76 : decode cX11_stepWord 76 = .ok (.iconst 0, 1) := by decide +kernel
theorem dX11_stepWord_77 : decode cX11_stepWord 77 = .ok (.iconst 0, 1) := by decide +kernel
theorem dX11_stepWord_78 : decode cX11_stepWord 78 = .ok (.invokestatic 170, 3) := by decide +kernel
theorem dX11_stepWord_81 : decode cX11_stepWord 81 = .ok (.invokevirtual 174, 3) := by decide +kernel
theorem dX11_stepWord_84 : decode cX11_stepWord 84 = .ok (.ifCond .eq 5, 3) := by decide +kernel
theorem dX11_stepWord_87 : decode cX11_stepWord 87 = .ok (.iconst 3, 1) := by decide +kernel
theorem dX11_stepWord_88 : decode cX11_stepWord 88 = .ok (.ireturn, 1) := by decide +kernel
theorem dX11_stepWord_89 : decode cX11_stepWord 89 = .ok (.aload_n 0, 1) := by decide +kernel
theorem dX11_stepWord_90 : decode cX11_stepWord 90 = .ok (.bipush 112, 2) := by decide +kernel
theorem dX11_stepWord_92 : decode cX11_stepWord 92 = .ok (.bipush 97, 2) := by decide +kernel
theorem dX11_stepWord_94 : decode cX11_stepWord 94 = .ok (.bipush 121, 2) := by decide +kernel
theorem dX11_stepWord_96 : decode cX11_stepWord 96 = .ok (.iconst 0, 1) := by decide +kernel
theorem dX11_stepWord_97 : decode cX11_stepWord 97 = .ok (.iconst 0, 1) := by decide +kernel
theorem dX11_stepWord_98 : decode cX11_stepWord 98 = .ok (.iconst 0, 1) := by decide +kernel
theorem dX11_stepWord_99 : decode cX11_stepWord 99 = .ok (.invokestatic 170, 3) := by decide +kernel
theorem dX11_stepWord_102 : decode cX11_stepWord 102 = .ok (.invokevirtual 174, 3) := by decide +kernel
theorem dX11_stepWord_105 : decode cX11_stepWord 105 = .ok (.ifCond .eq 5, 3) := by decide +kernel
theorem dX11_stepWord_108 : decode cX11_stepWord 108 = .ok (.iconst 4, 1) := by decide +kernel
theorem dX11_stepWord_109 : decode cX11_stepWord 109 = .ok (.ireturn, 1) := by decide +kernel
theorem dX11_stepWord_110 : decode cX11_stepWord 110 = .ok (.aload_n 0, 1) := by decide +kernel
theorem dX11_stepWord_111 : decode cX11_stepWord 111 = .ok (.bipush 119, 2) := by decide +kernel
theorem dX11_stepWord_113 : decode cX11_stepWord 113 = .ok (.bipush 104, 2) := by decide +kernel
theorem dX11_stepWord_115 : decode cX11_stepWord 115 = .ok (.bipush 101, 2) := by decide +kernel
theorem dX11_stepWord_117 : decode cX11_stepWord 117 = .ok (.bipush 110, 2) := by decide +kernel
theorem dX11_stepWord_119 : decode cX11_stepWord 119 = .ok (.iconst 0, 1) := by decide +kernel
theorem dX11_stepWord_120 : decode cX11_stepWord 120 = .ok (.iconst 0, 1) := by decide +kernel
theorem dX11_stepWord_121 : decode cX11_stepWord 121 = .ok (.invokestatic 170, 3) := by decide +kernel
theorem dX11_stepWord_124 : decode cX11_stepWord 124 = .ok (.invokevirtual 174, 3) := by decide +kernel
theorem dX11_stepWord_127 : decode cX11_stepWord 127 = .ok (.ifCond .eq 5, 3) := by decide +kernel
theorem dX11_stepWord_130 : decode cX11_stepWord 130 = .ok (.iconst 5, 1) := by decide +kernel
theorem dX11_stepWord_131 : decode cX11_stepWord 131 = .ok (.ireturn, 1) := by decide +kernel
theorem dX11_stepWord_132 : decode cX11_stepWord 132 = .ok (.aload_n 0, 1) := by decide +kernel
theorem dX11_stepWord_133 : decode cX11_stepWord 133 = .ok (.bipush 108, 2) := by decide +kernel
theorem dX11_stepWord_135 : decode cX11_stepWord 135 = .ok (.bipush 111, 2) := by decide +kernel
theorem dX11_stepWord_137 : decode cX11_stepWord 137 = .ok (.bipush 111, 2) := by decide +kernel
theorem dX11_stepWord_139 : decode cX11_stepWord 139 = .ok (.bipush 112, 2) := by decide +kernel
theorem dX11_stepWord_141 : decode cX11_stepWord 141 = .ok (.iconst 0, 1) := by decide +kernel
theorem dX11_stepWord_142 : decode cX11_stepWord 142 = .ok (.iconst 0, 1) := by decide +kernel
theorem dX11_stepWord_143 : decode cX11_stepWord 143 = .ok (.invokestatic 170, 3) := by decide +kernel
theorem dX11_stepWord_146 : decode cX11_stepWord 146 = .ok (.invokevirtual 174, 3) := by decide +kernel
theorem dX11_stepWord_149 : decode cX11_stepWord 149 = .ok (.ifCond .eq 6, 3) := by decide +kernel
theorem dX11_stepWord_152 : decode cX11_stepWord 152 = .ok (.bipush 6, 2) := by decide +kernel
theorem dX11_stepWord_154 : decode cX11_stepWord 154 = .ok (.ireturn, 1) := by decide +kernel
theorem dX11_stepWord_155 : decode cX11_stepWord 155 = .ok (.aload_n 0, 1) := by decide +kernel
theorem dX11_stepWord_156 : decode cX11_stepWord 156 = .ok (.bipush 115, 2) := by decide +kernel
theorem dX11_stepWord_158 : decode cX11_stepWord 158 = .ok (.bipush 116, 2) := by decide +kernel
theorem dX11_stepWord_160 : decode cX11_stepWord 160 = .ok (.bipush 111, 2) := by decide +kernel
theorem dX11_stepWord_162 : decode cX11_stepWord 162 = .ok (.bipush 112, 2) := by decide +kernel
theorem dX11_stepWord_164 : decode cX11_stepWord 164 = .ok (.iconst 0, 1) := by decide +kernel
theorem dX11_stepWord_165 : decode cX11_stepWord 165 = .ok (.iconst 0, 1) := by decide +kernel
theorem dX11_stepWord_166 : decode cX11_stepWord 166 = .ok (.invokestatic 170, 3) := by decide +kernel
theorem dX11_stepWord_169 : decode cX11_stepWord 169 = .ok (.invokevirtual 174, 3) := by decide +kernel
theorem dX11_stepWord_172 : decode cX11_stepWord 172 = .ok (.ifCond .eq 8, 3) := by decide +kernel
theorem dX11_stepWord_175 : decode cX11_stepWord 175 = .ok (.bipush 7, 2) := by decide +kernel
theorem dX11_stepWord_177 : decode cX11_stepWord 177 = .ok (.goto 4, 3) := by decide +kernel
theorem dX11_stepWord_180 : decode cX11_stepWord 180 = .ok (.iconst (-1), 1) := by decide +kernel
theorem dX11_stepWord_181 : decode cX11_stepWord 181 = .ok (.ireturn, 1) := by decide +kernel
theorem dX11_testWord_0 : decode cX11_testWord 0 = .ok (.aload_n 0, 1) := by decide +kernel
theorem dX11_testWord_1 : decode cX11_testWord 1 = .ok (.bipush 108, 2) := by decide +kernel
theorem dX11_testWord_3 : decode cX11_testWord 3 = .ok (.bipush 111, 2) := by decide +kernel
theorem dX11_testWord_5 : decode cX11_testWord 5 = .ok (.bipush 110, 2) := by decide +kernel
theorem dX11_testWord_7 : decode cX11_testWord 7 = .ok (.bipush 103, 2) := by decide +kernel
theorem dX11_testWord_9 : decode cX11_testWord 9 = .ok (.iconst 0, 1) := by decide +kernel
theorem dX11_testWord_10 : decode cX11_testWord 10 = .ok (.iconst 0, 1) := by decide +kernel
theorem dX11_testWord_11 : decode cX11_testWord 11 = .ok (.invokestatic 170, 3) := by decide +kernel
theorem dX11_testWord_14 : decode cX11_testWord 14 = .ok (.invokevirtual 174, 3) := by decide +kernel
theorem dX11_testWord_17 : decode cX11_testWord 17 = .ok (.ifCond .eq 5, 3) := by decide +kernel
theorem dX11_testWord_20 : decode cX11_testWord 20 = .ok (.iconst 0, 1) := by decide +kernel
theorem dX11_testWord_21 : decode cX11_testWord 21 = .ok (.ireturn, 1) := by decide +kernel
theorem dX11_testWord_22 : decode cX11_testWord 22 = .ok (.aload_n 0, 1) := by decide +kernel
theorem dX11_testWord_23 : decode cX11_testWord 23 = .ok (.bipush 115, 2) := by decide +kernel
theorem dX11_testWord_25 : decode cX11_testWord 25 = .ok (.bipush 97, 2) := by decide +kernel
theorem dX11_testWord_27 : decode cX11_testWord 27 = .ok (.bipush 121, 2) := by decide +kernel
theorem dX11_testWord_29 : decode cX11_testWord 29 = .ok (.bipush 115, 2) := by decide +kernel
theorem dX11_testWord_31 : decode cX11_testWord 31 = .ok (.iconst 0, 1) := by decide +kernel
theorem dX11_testWord_32 : decode cX11_testWord 32 = .ok (.iconst 0, 1) := by decide +kernel
theorem dX11_testWord_33 : decode cX11_testWord 33 = .ok (.invokestatic 170, 3) := by decide +kernel
theorem dX11_testWord_36 : decode cX11_testWord 36 = .ok (.invokevirtual 174, 3) := by decide +kernel
theorem dX11_testWord_39 : decode cX11_testWord 39 = .ok (.ifCond .eq 5, 3) := by decide +kernel
theorem dX11_testWord_42 : decode cX11_testWord 42 = .ok (.iconst 1, 1) := by decide +kernel
theorem dX11_testWord_43 : decode cX11_testWord 43 = .ok (.ireturn, 1) := by decide +kernel
theorem dX11_testWord_44 : decode cX11_testWord 44 = .ok (.aload_n 0, 1) := by decide +kernel
theorem dX11_testWord_45 : decode cX11_testWord 45 = .ok (.bipush 107, 2) := by decide +kernel
theorem dX11_testWord_47 : decode cX11_testWord 47 = .ok (.bipush 110, 2) := by decide +kernel
theorem dX11_testWord_49 : decode cX11_testWord 49 = .ok (.bipush 111, 2) := by decide +kernel
theorem dX11_testWord_51 : decode cX11_testWord 51 = .ok (.bipush 119, 2) := by decide +kernel
theorem dX11_testWord_53 : decode cX11_testWord 53 = .ok (.bipush 115, 2) := by decide +kernel
theorem dX11_testWord_55 : decode cX11_testWord 55 = .ok (.iconst 0, 1) := by decide +kernel
theorem dX11_testWord_56 : decode cX11_testWord 56 = .ok (.invokestatic 170, 3) := by decide +kernel
theorem dX11_testWord_59 : decode cX11_testWord 59 = .ok (.invokevirtual 174, 3) := by decide +kernel
theorem dX11_testWord_62 : decode cX11_testWord 62 = .ok (.ifCond .eq 7, 3) := by decide +kernel
theorem dX11_testWord_65 : decode cX11_testWord 65 = .ok (.iconst 2, 1) := by decide +kernel
theorem dX11_testWord_66 : decode cX11_testWord 66 = .ok (.goto 4, 3) := by decide +kernel
theorem dX11_testWord_69 : decode cX11_testWord 69 = .ok (.iconst (-1), 1) := by decide +kernel
theorem dX11_testWord_70 : decode cX11_testWord 70 = .ok (.ireturn, 1) := by decide +kernel
theorem dX11_isEnd_0 : decode cX11_isEnd 0 = .ok (.aload_n 0, 1) := by decide +kernel
theorem dX11_isEnd_1 : decode cX11_isEnd 1 = .ok (.bipush 101, 2) := by decide +kernel
theorem dX11_isEnd_3 : decode cX11_isEnd 3 = .ok (.bipush 110, 2) := by decide +kernel
theorem dX11_isEnd_5 : decode cX11_isEnd 5 = .ok (.bipush 100, 2) := by decide +kernel
theorem dX11_isEnd_7 : decode cX11_isEnd 7 = .ok (.iconst 0, 1) := by decide +kernel
theorem dX11_isEnd_8 : decode cX11_isEnd 8 = .ok (.iconst 0, 1) := by decide +kernel
theorem dX11_isEnd_9 : decode cX11_isEnd 9 = .ok (.iconst 0, 1) := by decide +kernel
theorem dX11_isEnd_10 : decode cX11_isEnd 10 = .ok (.invokestatic 170, 3) := by decide +kernel
theorem dX11_isEnd_13 : decode cX11_isEnd 13 = .ok (.invokevirtual 174, 3) := by decide +kernel
theorem dX11_isEnd_16 : decode cX11_isEnd 16 = .ok (.ireturn, 1) := by decide +kernel
theorem dX11_isKept_0 : decode cX11_isKept 0 = .ok (.aload_n 0, 1) := by decide +kernel
theorem dX11_isKept_1 : decode cX11_isKept 1 = .ok (.invokevirtual 178, 3) := by decide +kernel
theorem dX11_isKept_4 : decode cX11_isKept 4 = .ok (.ifCond .ne 73, 3) := by decide +kernel
theorem dX11_isKept_7 : decode cX11_isKept 7 = .ok (.aload_n 0, 1) := by decide +kernel
theorem dX11_isKept_8 : decode cX11_isKept 8 = .ok (.invokevirtual 182, 3) := by decide +kernel
theorem dX11_isKept_11 : decode cX11_isKept 11 = .ok (.ifCond .ne 66, 3) := by decide +kernel
theorem dX11_isKept_14 : decode cX11_isKept 14 = .ok (.aload_n 0, 1) := by decide +kernel
theorem dX11_isKept_15 : decode cX11_isKept 15 = .ok (.invokevirtual 185, 3) := by decide +kernel
theorem dX11_isKept_18 : decode cX11_isKept 18 = .ok (.ifCond .ne 59, 3) := by decide +kernel
theorem dX11_isKept_21 : decode cX11_isKept 21 = .ok (.aload_n 0, 1) := by decide +kernel
theorem dX11_isKept_22 : decode cX11_isKept 22 = .ok (.invokevirtual 188, 3) := by decide +kernel
theorem dX11_isKept_25 : decode cX11_isKept 25 = .ok (.ifCond .ne 52, 3) := by decide +kernel
theorem dX11_isKept_28 : decode cX11_isKept 28 = .ok (.aload_n 0, 1) := by decide +kernel
theorem dX11_isKept_29 : decode cX11_isKept 29 = .ok (.invokevirtual 191, 3) := by decide +kernel
theorem dX11_isKept_32 : decode cX11_isKept 32 = .ok (.ifCond .ne 45, 3) := by decide +kernel
theorem dX11_isKept_35 : decode cX11_isKept 35 = .ok (.aload_n 0, 1) := by decide +kernel
theorem dX11_isKept_36 : decode cX11_isKept 36 = .ok (.invokevirtual 194, 3) := by decide +kernel
theorem dX11_isKept_39 : decode cX11_isKept 39 = .ok (.ifCond .ne 38, 3) := by decide +kernel
theorem dX11_isKept_42 : decode cX11_isKept 42 = .ok (.aload_n 0, 1) := by decide +kernel
theorem dX11_isKept_43 : decode cX11_isKept 43 = .ok (.invokevirtual 197, 3) := by decide +kernel
theorem dX11_isKept_46 : decode cX11_isKept 46 = .ok (.ifCond .ne 31, 3) := by decide +kernel
theorem dX11_isKept_49 : decode cX11_isKept 49 = .ok (.aload_n 0, 1) := by decide +kernel
theorem dX11_isKept_50 : decode cX11_isKept 50 = .ok (.invokevirtual 200, 3) := by decide +kernel
theorem dX11_isKept_53 : decode cX11_isKept 53 = .ok (.ifCond .ne 24, 3) := by decide +kernel
theorem dX11_isKept_56 : decode cX11_isKept 56 = .ok (.aload_n 0, 1) := by decide +kernel
theorem dX11_isKept_57 : decode cX11_isKept 57 = .ok (.invokevirtual 203, 3) := by decide +kernel
theorem dX11_isKept_60 : decode cX11_isKept 60 = .ok (.ifCond .ne 17, 3) := by decide +kernel
theorem dX11_isKept_63 : decode cX11_isKept 63 = .ok (.aload_n 0, 1) := by decide +kernel
theorem dX11_isKept_64 : decode cX11_isKept 64 = .ok (.invokevirtual 206, 3) := by decide +kernel
theorem dX11_isKept_67 : decode cX11_isKept 67 = .ok (.ifCond .ne 10, 3) := by decide +kernel
theorem dX11_isKept_70 : decode cX11_isKept 70 = .ok (.aload_n 0, 1) := by decide +kernel
theorem dX11_isKept_71 : decode cX11_isKept 71 = .ok (.invokevirtual 209, 3) := by decide +kernel
theorem dX11_isKept_74 : decode cX11_isKept 74 = .ok (.ifCond .eq 5, 3) := by decide +kernel
theorem dX11_isKept_77 : decode cX11_isKept 77 = .ok (.iconst 1, 1) := by decide +kernel
theorem dX11_isKept_78 : decode cX11_isKept 78 = .ok (.ireturn, 1) := by decide +kernel
theorem dX11_isKept_79 : decode cX11_isKept 79 = .ok (.aload_n 0, 1) := by decide +kernel
theorem dX11_isKept_80 : decode cX11_isKept 80 = .ok (.invokevirtual 212, 3) := by decide +kernel
theorem dX11_isKept_83 : decode cX11_isKept 83 = .ok (.ifCond .ge 17, 3) := by decide +kernel
theorem dX11_isKept_86 : decode cX11_isKept 86 = .ok (.aload_n 0, 1) := by decide +kernel
theorem dX11_isKept_87 : decode cX11_isKept 87 = .ok (.invokevirtual 216, 3) := by decide +kernel
theorem dX11_isKept_90 : decode cX11_isKept 90 = .ok (.ifCond .ge 10, 3) := by decide +kernel
theorem dX11_isKept_93 : decode cX11_isKept 93 = .ok (.aload_n 0, 1) := by decide +kernel
theorem dX11_isKept_94 : decode cX11_isKept 94 = .ok (.invokevirtual 219, 3) := by decide +kernel
theorem dX11_isKept_97 : decode cX11_isKept 97 = .ok (.ifCond .eq 7, 3) := by decide +kernel
theorem dX11_isKept_100 : decode cX11_isKept 100 = .ok (.iconst 1, 1) := by decide +kernel
theorem dX11_isKept_101 : decode cX11_isKept 101 = .ok (.goto 4, 3) := by decide +kernel
theorem dX11_isKept_104 : decode cX11_isKept 104 = .ok (.iconst 0, 1) := by decide +kernel
theorem dX11_isKept_105 : decode cX11_isKept 105 = .ok (.ireturn, 1) := by decide +kernel
theorem dX11_isName_0 : decode cX11_isName 0 = .ok (.aload_n 0, 1) := by decide +kernel
theorem dX11_isName_1 : decode cX11_isName 1 = .ok (.getfield 145, 3) := by decide +kernel
theorem dX11_isName_4 : decode cX11_isName 4 = .ok (.iconst 1, 1) := by decide +kernel
theorem dX11_isName_5 : decode cX11_isName 5 = .ok (.if_icmp .ne 23, 3) := by decide +kernel
theorem dX11_isName_8 : decode cX11_isName 8 = .ok (.aload_n 0, 1) := by decide +kernel
theorem dX11_isName_9 : decode cX11_isName 9 = .ok (.getfield 158, 3) := by decide +kernel
theorem dX11_isName_12 : decode cX11_isName 12 = .ok (.bipush 8, 2) := by decide +kernel
theorem dX11_isName_14 : decode cX11_isName 14 = .ok (.if_icmp .gt 14, 3) := by decide +kernel
theorem dX11_isName_17 : decode cX11_isName 17 = .ok (.aload_n 0, 1) := by decide +kernel
theorem dX11_isName_18 : decode cX11_isName 18 = .ok (.invokevirtual 222, 3) := by decide +kernel
theorem dX11_isName_21 : decode cX11_isName 21 = .ok (.ifCond .ne 7, 3) := by decide +kernel
theorem dX11_isName_24 : decode cX11_isName 24 = .ok (.iconst 1, 1) := by decide +kernel
theorem dX11_isName_25 : decode cX11_isName 25 = .ok (.goto 4, 3) := by decide +kernel
theorem dX11_isName_28 : decode cX11_isName 28 = .ok (.iconst 0, 1) := by decide +kernel
theorem dX11_isName_29 : decode cX11_isName 29 = .ok (.ireturn, 1) := by decide +kernel
theorem dX11_fail_0 : decode cX11_fail 0 = .ok (.aload_n 0, 1) := by decide +kernel
theorem dX11_fail_1 : decode cX11_fail 1 = .ok (.getfield 225, 3) := by decide +kernel
theorem dX11_fail_4 : decode cX11_fail 4 = .ok (.ifCond .le 4, 3) := by decide +kernel
theorem dX11_fail_7 : decode cX11_fail 7 = .ok (.return_, 1) := by decide +kernel
theorem dX11_fail_8 : decode cX11_fail 8 = .ok (.aload_n 0, 1) := by decide +kernel
theorem dX11_fail_9 : decode cX11_fail 9 = .ok (.iload_n 1, 1) := by decide +kernel
theorem dX11_fail_10 : decode cX11_fail 10 = .ok (.putfield 225, 3) := by decide +kernel
theorem dX11_fail_13 : decode cX11_fail 13 = .ok (.aload_n 0, 1) := by decide +kernel
theorem dX11_fail_14 : decode cX11_fail 14 = .ok (.iload_n 2, 1) := by decide +kernel
theorem dX11_fail_15 : decode cX11_fail 15 = .ok (.putfield 228, 3) := by decide +kernel
theorem dX11_fail_18 : decode cX11_fail 18 = .ok (.return_, 1) := by decide +kernel
theorem dX11_wrong_0 : decode cX11_wrong 0 = .ok (.aload_n 0, 1) := by decide +kernel
theorem dX11_wrong_1 : decode cX11_wrong 1 = .ok (.aload_n 0, 1) := by decide +kernel
theorem dX11_wrong_2 : decode cX11_wrong 2 = .ok (.getfield 145, 3) := by decide +kernel
theorem dX11_wrong_5 : decode cX11_wrong 5 = .ok (.iconst 4, 1) := by decide +kernel
theorem dX11_wrong_6 : decode cX11_wrong 6 = .ok (.if_icmp .ne 7, 3) := by decide +kernel
theorem dX11_wrong_9 : decode cX11_wrong 9 = .ok (.iconst 1, 1) := by decide +kernel
theorem dX11_wrong_10 : decode cX11_wrong 10 = .ok (.goto 4, 3) := by decide +kernel
theorem dX11_wrong_13 : decode cX11_wrong 13 = .ok (.iconst 2, 1) := by decide +kernel
theorem dX11_wrong_14 : decode cX11_wrong 14 = .ok (.aload_n 0, 1) := by decide +kernel
theorem dX11_wrong_15 : decode cX11_wrong 15 = .ok (.getfield 139, 3) := by decide +kernel
theorem dX11_wrong_18 : decode cX11_wrong 18 = .ok (.invokevirtual 231, 3) := by decide +kernel
theorem dX11_wrong_21 : decode cX11_wrong 21 = .ok (.return_, 1) := by decide +kernel
theorem dX11_must_0 : decode cX11_must 0 = .ok (.aload_n 0, 1) := by decide +kernel
theorem dX11_must_1 : decode cX11_must 1 = .ok (.getfield 225, 3) := by decide +kernel
theorem dX11_must_4 : decode cX11_must 4 = .ok (.ifCond .le 4, 3) := by decide +kernel
theorem dX11_must_7 : decode cX11_must 7 = .ok (.return_, 1) := by decide +kernel
theorem dX11_must_8 : decode cX11_must 8 = .ok (.iload_n 1, 1) := by decide +kernel
theorem dX11_must_9 : decode cX11_must 9 = .ok (.ifCond .eq 10, 3) := by decide +kernel
theorem dX11_must_12 : decode cX11_must 12 = .ok (.aload_n 0, 1) := by decide +kernel
theorem dX11_must_13 : decode cX11_must 13 = .ok (.invokevirtual 235, 3) := by decide +kernel
theorem dX11_must_16 : decode cX11_must 16 = .ok (.goto 7, 3) := by decide +kernel
theorem dX11_must_19 : decode cX11_must 19 = .ok (.aload_n 0, 1) := by decide +kernel
theorem dX11_must_20 : decode cX11_must 20 = .ok (.invokevirtual 238, 3) := by decide +kernel
theorem dX11_must_23 : decode cX11_must 23 = .ok (.return_, 1) := by decide +kernel
theorem dX11_count_0 : decode cX11_count 0 = .ok (.aload_n 0, 1) := by decide +kernel
theorem dX11_count_1 : decode cX11_count 1 = .ok (.getfield 225, 3) := by decide +kernel
theorem dX11_count_4 : decode cX11_count 4 = .ok (.ifCond .ne 15, 3) := by decide +kernel
theorem dX11_count_7 : decode cX11_count 7 = .ok (.aload_n 0, 1) := by decide +kernel
theorem dX11_count_8 : decode cX11_count 8 = .ok (.getfield 145, 3) := by decide +kernel
theorem dX11_count_11 : decode cX11_count 11 = .ok (.iconst 2, 1) := by decide +kernel
theorem dX11_count_12 : decode cX11_count 12 = .ok (.if_icmp .eq 7, 3) := by decide +kernel
theorem dX11_count_15 : decode cX11_count 15 = .ok (.aload_n 0, 1) := by decide +kernel
theorem dX11_count_16 : decode cX11_count 16 = .ok (.invokevirtual 238, 3) := by decide +kernel
theorem dX11_count_19 : decode cX11_count 19 = .ok (.aload_n 0, 1) := by decide +kernel
theorem dX11_count_20 : decode cX11_count 20 = .ok (.getfield 225, 3) := by decide +kernel
theorem dX11_count_23 : decode cX11_count 23 = .ok (.ifCond .ne 27, 3) := by decide +kernel
theorem dX11_count_26 : decode cX11_count 26 = .ok (.aload_n 0, 1) := by decide +kernel
theorem dX11_count_27 : decode cX11_count 27 = .ok (.getfield 164, 3) := by decide +kernel
theorem dX11_count_30 : decode cX11_count 30 = .ok (.i2l, 1) := by decide +kernel
theorem dX11_count_31 : decode cX11_count 31 = .ok (.iload_n 1, 1) := by decide +kernel
theorem dX11_count_32 : decode cX11_count 32 = .ok (.i2l, 1) := by decide +kernel
theorem dX11_count_33 : decode cX11_count 33 = .ok (.iload_n 2, 1) := by decide +kernel
theorem dX11_count_34 : decode cX11_count 34 = .ok (.i2l, 1) := by decide +kernel
theorem dX11_count_35 : decode cX11_count 35 = .ok (.invokestatic 129, 3) := by decide +kernel
theorem dX11_count_38 : decode cX11_count 38 = .ok (.ifCond .ne 12, 3) := by decide +kernel
theorem dX11_count_41 : decode cX11_count 41 = .ok (.aload_n 0, 1) := by decide +kernel
theorem dX11_count_42 : decode cX11_count 42 = .ok (.iconst 4, 1) := by decide +kernel
theorem dX11_count_43 : decode cX11_count 43 = .ok (.aload_n 0, 1) := by decide +kernel
theorem dX11_count_44 : decode cX11_count 44 = .ok (.getfield 139, 3) := by decide +kernel
theorem dX11_count_47 : decode cX11_count 47 = .ok (.invokevirtual 231, 3) := by decide +kernel
theorem dX11_count_50 : decode cX11_count 50 = .ok (.aload_n 0, 1) := by decide +kernel
theorem dX11_count_51 : decode cX11_count 51 = .ok (.getfield 225, 3) := by decide +kernel
theorem dX11_count_54 : decode cX11_count 54 = .ok (.ifCond .le 5, 3) := by decide +kernel
theorem dX11_count_57 : decode cX11_count 57 = .ok (.iconst 0, 1) := by decide +kernel
theorem dX11_count_58 : decode cX11_count 58 = .ok (.ireturn, 1) := by decide +kernel
theorem dX11_count_59 : decode cX11_count 59 = .ok (.aload_n 0, 1) := by decide +kernel
theorem dX11_count_60 : decode cX11_count 60 = .ok (.getfield 164, 3) := by decide +kernel
theorem dX11_count_63 : decode cX11_count 63 = .ok (.istore_n 3, 1) := by decide +kernel
theorem dX11_count_64 : decode cX11_count 64 = .ok (.aload_n 0, 1) := by decide +kernel
theorem dX11_count_65 : decode cX11_count 65 = .ok (.invokevirtual 235, 3) := by decide +kernel
theorem dX11_count_68 : decode cX11_count 68 = .ok (.iload_n 3, 1) := by decide +kernel
theorem dX11_count_69 : decode cX11_count 69 = .ok (.ireturn, 1) := by decide +kernel
theorem dX11_feed_0 : decode cX11_feed 0 = .ok (.aload_n 0, 1) := by decide +kernel
theorem dX11_feed_1 : decode cX11_feed 1 = .ok (.iconst 0, 1) := by decide +kernel
theorem dX11_feed_2 : decode cX11_feed 2 = .ok (.putfield 94, 3) := by decide +kernel
theorem dX11_feed_5 : decode cX11_feed 5 = .ok (.aload_n 0, 1) := by decide +kernel
theorem dX11_feed_6 : decode cX11_feed 6 = .ok (.getfield 241, 3) := by decide +kernel
theorem dX11_feed_9 : decode cX11_feed 9 = .ok (.bipush 20, 2) := by decide +kernel
theorem dX11_feed_11 : decode cX11_feed 11 = .ok (.iadd, 1) := by decide +kernel
theorem dX11_feed_12 : decode cX11_feed 12 = .ok (.sipush 900, 3) := by decide +kernel
theorem dX11_feed_15 : decode cX11_feed 15 = .ok (.if_icmp .le 5, 3) := by decide +kernel
theorem dX11_feed_18 : decode cX11_feed 18 = .ok (.iconst (-1), 1) := by decide +kernel
theorem dX11_feed_19 : decode cX11_feed 19 = .ok (.ireturn, 1) := by decide +kernel
theorem dX11_feed_20 : decode cX11_feed 20 = .ok (.aload_n 0, 1) := by decide +kernel
theorem dX11_feed_21 : decode cX11_feed 21 = .ok (.iload_n 1, 1) := by decide +kernel
theorem dX11_feed_22 : decode cX11_feed 22 = .ok (.invokevirtual 244, 3) := by decide +kernel
theorem dX11_feed_25 : decode cX11_feed 25 = .ok (.aload_n 0, 1) := by decide +kernel
theorem dX11_feed_26 : decode cX11_feed 26 = .ok (.iload_n 2, 1) := by decide +kernel
theorem dX11_feed_27 : decode cX11_feed 27 = .ok (.invokevirtual 244, 3) := by decide +kernel
theorem dX11_feed_30 : decode cX11_feed 30 = .ok (.aload_n 0, 1) := by decide +kernel
theorem dX11_feed_31 : decode cX11_feed 31 = .ok (.iload_n 3, 1) := by decide +kernel
theorem dX11_feed_32 : decode cX11_feed 32 = .ok (.invokevirtual 244, 3) := by decide +kernel
theorem dX11_feed_35 : decode cX11_feed 35 = .ok (.aload_n 0, 1) := by decide +kernel
theorem dX11_feed_36 : decode cX11_feed 36 = .ok (.iload 4, 2) := by decide +kernel
theorem dX11_feed_38 : decode cX11_feed 38 = .ok (.invokevirtual 244, 3) := by decide +kernel
theorem dX11_feed_41 : decode cX11_feed 41 = .ok (.aload_n 0, 1) := by decide +kernel
theorem dX11_feed_42 : decode cX11_feed 42 = .ok (.iload 5, 2) := by decide +kernel
theorem dX11_feed_44 : decode cX11_feed 44 = .ok (.invokevirtual 244, 3) := by decide +kernel
theorem dX11_feed_47 : decode cX11_feed 47 = .ok (.aload_n 0, 1) := by decide +kernel
theorem dX11_feed_48 : decode cX11_feed 48 = .ok (.getfield 241, 3) := by decide +kernel
theorem dX11_feed_51 : decode cX11_feed 51 = .ok (.ireturn, 1) := by decide +kernel
theorem dX11_lay_0 : decode cX11_lay 0 = .ok (.iconst 3, 1) := by decide +kernel
theorem dX11_lay_1 : decode cX11_lay 1 = .ok (.istore_n 2, 1) := by decide +kernel
theorem dX11_lay_2 : decode cX11_lay 2 = .ok (.iload_n 2, 1) := by decide +kernel
theorem dX11_lay_3 : decode cX11_lay 3 = .ok (.ifCond .lt 35, 3) := by decide +kernel
theorem dX11_lay_6 : decode cX11_lay 6 = .ok (.aload_n 0, 1) := by decide +kernel
theorem dX11_lay_7 : decode cX11_lay 7 = .ok (.getfield 24, 3) := by decide +kernel
theorem dX11_lay_10 : decode cX11_lay 10 = .ok (.aload_n 0, 1) := by decide +kernel
theorem dX11_lay_11 : decode cX11_lay 11 = .ok (.getfield 241, 3) := by decide +kernel
theorem dX11_lay_14 : decode cX11_lay 14 = .ok (.iload_n 1, 1) := by decide +kernel
theorem dX11_lay_15 : decode cX11_lay 15 = .ok (.bipush 8, 2) := by decide +kernel
theorem dX11_lay_17 : decode cX11_lay 17 = .ok (.iload_n 2, 1) := by decide +kernel
theorem dX11_lay_18 : decode cX11_lay 18 = .ok (.imul, 1) := by decide +kernel
theorem dX11_lay_19 : decode cX11_lay 19 = .ok (.ishr, 1) := by decide +kernel
theorem dX11_lay_20 : decode cX11_lay 20 = .ok (.i2b, 1) := by decide +kernel
theorem dX11_lay_21 : decode cX11_lay 21 = .ok (.bastore, 1) := by decide +kernel
theorem dX11_lay_22 : decode cX11_lay 22 = .ok (.aload_n 0, 1) := by decide +kernel
theorem dX11_lay_23 : decode cX11_lay 23 = .ok (.dup, 1) := by decide +kernel
theorem dX11_lay_24 : decode cX11_lay 24 = .ok (.getfield 241, 3) := by decide +kernel
theorem dX11_lay_27 : decode cX11_lay 27 = .ok (.iconst 1, 1) := by decide +kernel
theorem dX11_lay_28 : decode cX11_lay 28 = .ok (.iadd, 1) := by decide +kernel
theorem dX11_lay_29 : decode cX11_lay 29 = .ok (.putfield 241, 3) := by decide +kernel
theorem dX11_lay_32 : decode cX11_lay 32 = .ok (.iinc 2 (-1), 3) := by decide +kernel
theorem dX11_lay_35 : decode cX11_lay 35 = .ok (.goto (-33), 3) := by decide +kernel
theorem dX11_lay_38 : decode cX11_lay 38 = .ok (.return_, 1) := by decide +kernel
theorem dX11_starts_0 : decode cX11_starts 0 = .ok (.iload_n 1, 1) := by decide +kernel
theorem dX11_starts_1 : decode cX11_starts 1 = .ok (.ifCond .lt 16, 3) := by decide +kernel
theorem dX11_starts_4 : decode cX11_starts 4 = .ok (.iload_n 1, 1) := by decide +kernel
theorem dX11_starts_5 : decode cX11_starts 5 = .ok (.aload_n 0, 1) := by decide +kernel
theorem dX11_starts_6 : decode cX11_starts 6 = .ok (.getfield 241, 3) := by decide +kernel
theorem dX11_starts_9 : decode cX11_starts 9 = .ok (.if_icmp .gt 8, 3) := by decide +kernel
theorem dX11_starts_12 : decode cX11_starts 12 = .ok (.iload_n 1, 1) := by decide +kernel
theorem dX11_starts_13 : decode cX11_starts 13 = .ok (.iload_n 2, 1) := by decide +kernel
theorem dX11_starts_14 : decode cX11_starts 14 = .ok (.if_icmp .le 9, 3) := by decide +kernel
theorem dX11_starts_17 : decode cX11_starts 17 = .ok (.aload_n 0, 1) := by decide +kernel
theorem dX11_starts_18 : decode cX11_starts 18 = .ok (.iconst 5, 1) := by decide +kernel
theorem dX11_starts_19 : decode cX11_starts 19 = .ok (.invokevirtual 109, 3) := by decide +kernel
theorem dX11_starts_22 : decode cX11_starts 22 = .ok (.ireturn, 1) := by decide +kernel
theorem dX11_starts_23 : decode cX11_starts 23 = .ok (.aload_n 0, 1) := by decide +kernel
theorem dX11_starts_24 : decode cX11_starts 24 = .ok (.iload_n 1, 1) := by decide +kernel
theorem dX11_starts_25 : decode cX11_starts 25 = .ok (.putfield 133, 3) := by decide +kernel
theorem dX11_starts_28 : decode cX11_starts 28 = .ok (.aload_n 0, 1) := by decide +kernel
theorem dX11_starts_29 : decode cX11_starts 29 = .ok (.iconst 0, 1) := by decide +kernel
theorem dX11_starts_30 : decode cX11_starts 30 = .ok (.putfield 241, 3) := by decide +kernel
theorem dX11_starts_33 : decode cX11_starts 33 = .ok (.aload_n 0, 1) := by decide +kernel
theorem dX11_starts_34 : decode cX11_starts 34 = .ok (.iconst 0, 1) := by decide +kernel
theorem dX11_starts_35 : decode cX11_starts 35 = .ok (.putfield 136, 3) := by decide +kernel
theorem dX11_starts_38 : decode cX11_starts 38 = .ok (.aload_n 0, 1) := by decide +kernel
theorem dX11_starts_39 : decode cX11_starts 39 = .ok (.iconst 0, 1) := by decide +kernel
theorem dX11_starts_40 : decode cX11_starts 40 = .ok (.putfield 225, 3) := by decide +kernel
theorem dX11_starts_43 : decode cX11_starts 43 = .ok (.aload_n 0, 1) := by decide +kernel
theorem dX11_starts_44 : decode cX11_starts 44 = .ok (.invokevirtual 235, 3) := by decide +kernel
theorem dX11_starts_47 : decode cX11_starts 47 = .ok (.iconst 1, 1) := by decide +kernel
theorem dX11_starts_48 : decode cX11_starts 48 = .ok (.ireturn, 1) := by decide +kernel
theorem dX11_isWell_0 : decode cX11_isWell 0 = .ok (.aload_n 0, 1) := by decide +kernel
theorem dX11_isWell_1 : decode cX11_isWell 1 = .ok (.aload_n 0, 1) := by decide +kernel
theorem dX11_isWell_2 : decode cX11_isWell 2 = .ok (.getfield 225, 3) := by decide +kernel
theorem dX11_isWell_5 : decode cX11_isWell 5 = .ok (.putfield 28, 3) := by decide +kernel
theorem dX11_isWell_8 : decode cX11_isWell 8 = .ok (.aload_n 0, 1) := by decide +kernel
theorem dX11_isWell_9 : decode cX11_isWell 9 = .ok (.aload_n 0, 1) := by decide +kernel
theorem dX11_isWell_10 : decode cX11_isWell 10 = .ok (.getfield 225, 3) := by decide +kernel
theorem dX11_isWell_13 : decode cX11_isWell 13 = .ok (.ifCond .ne 7, 3) := by decide +kernel
theorem dX11_isWell_16 : decode cX11_isWell 16 = .ok (.iconst (-1), 1) := by decide +kernel
theorem dX11_isWell_17 : decode cX11_isWell 17 = .ok (.goto 7, 3) := by decide +kernel
theorem dX11_isWell_20 : decode cX11_isWell 20 = .ok (.aload_n 0, 1) := by decide +kernel
theorem dX11_isWell_21 : decode cX11_isWell 21 = .ok (.getfield 228, 3) := by decide +kernel
theorem dX11_isWell_24 : decode cX11_isWell 24 = .ok (.putfield 32, 3) := by decide +kernel
theorem dX11_isWell_27 : decode cX11_isWell 27 = .ok (.aload_n 0, 1) := by decide +kernel
theorem dX11_isWell_28 : decode cX11_isWell 28 = .ok (.getfield 225, 3) := by decide +kernel
theorem dX11_isWell_31 : decode cX11_isWell 31 = .ok (.ifCond .eq 12, 3) := by decide +kernel
theorem dX11_isWell_34 : decode cX11_isWell 34 = .ok (.aload_n 0, 1) := by decide +kernel
theorem dX11_isWell_35 : decode cX11_isWell 35 = .ok (.bipush 10, 2) := by decide +kernel
theorem dX11_isWell_37 : decode cX11_isWell 37 = .ok (.invokevirtual 109, 3) := by decide +kernel
theorem dX11_isWell_40 : decode cX11_isWell 40 = .ok (.ifCond .eq 7, 3) := by decide +kernel
theorem dX11_isWell_43 : decode cX11_isWell 43 = .ok (.iconst 1, 1) := by decide +kernel
theorem dX11_isWell_44 : decode cX11_isWell 44 = .ok (.goto 4, 3) := by decide +kernel
theorem dX11_isWell_47 : decode cX11_isWell 47 = .ok (.iconst 0, 1) := by decide +kernel
theorem dX11_isWell_48 : decode cX11_isWell 48 = .ok (.ireturn, 1) := by decide +kernel
theorem dX11_fault_0 : decode cX11_fault 0 = .ok (.aload_n 0, 1) := by decide +kernel
theorem dX11_fault_1 : decode cX11_fault 1 = .ok (.iconst 0, 1) := by decide +kernel
theorem dX11_fault_2 : decode cX11_fault 2 = .ok (.putfield 94, 3) := by decide +kernel
theorem dX11_fault_5 : decode cX11_fault 5 = .ok (.iload_n 1, 1) := by decide +kernel
theorem dX11_fault_6 : decode cX11_fault 6 = .ok (.ifCond .ne 10, 3) := by decide +kernel
theorem dX11_fault_9 : decode cX11_fault 9 = .ok (.aload_n 0, 1) := by decide +kernel
theorem dX11_fault_10 : decode cX11_fault 10 = .ok (.getfield 28, 3) := by decide +kernel
theorem dX11_fault_13 : decode cX11_fault 13 = .ok (.goto 16, 3) := by decide +kernel
theorem dX11_fault_16 : decode cX11_fault 16 = .ok (.iload_n 1, 1) := by decide +kernel
theorem dX11_fault_17 : decode cX11_fault 17 = .ok (.iconst 1, 1) := by decide +kernel
theorem dX11_fault_18 : decode cX11_fault 18 = .ok (.if_icmp .ne 10, 3) := by decide +kernel
theorem dX11_fault_21 : decode cX11_fault 21 = .ok (.aload_n 0, 1) := by decide +kernel
theorem dX11_fault_22 : decode cX11_fault 22 = .ok (.getfield 32, 3) := by decide +kernel
theorem dX11_fault_25 : decode cX11_fault 25 = .ok (.goto 4, 3) := by decide +kernel
theorem dX11_fault_28 : decode cX11_fault 28 = .ok (.iconst (-1), 1) := by decide +kernel
theorem dX11_fault_29 : decode cX11_fault 29 = .ok (.ireturn, 1) := by decide +kernel
theorem dX11_namedIn_0 : decode cX11_namedIn 0 = .ok (.iconst 0, 1) := by decide +kernel
theorem dX11_namedIn_1 : decode cX11_namedIn 1 = .ok (.istore 4, 2) := by decide +kernel
theorem dX11_namedIn_3 : decode cX11_namedIn 3 = .ok (.iload 4, 2) := by decide +kernel
theorem dX11_namedIn_5 : decode cX11_namedIn 5 = .ok (.iload_n 3, 1) := by decide +kernel
theorem dX11_namedIn_6 : decode cX11_namedIn 6 = .ok (.if_icmp .ge 34, 3) := by decide +kernel
theorem dX11_namedIn_9 : decode cX11_namedIn 9 = .ok (.aload_n 0, 1) := by decide +kernel
theorem dX11_namedIn_10 : decode cX11_namedIn 10 = .ok (.getfield 41, 3) := by decide +kernel
theorem dX11_namedIn_13 : decode cX11_namedIn 13 = .ok (.bipush 20, 2) := by decide +kernel
theorem dX11_namedIn_15 : decode cX11_namedIn 15 = .ok (.iload_n 1, 1) := by decide +kernel
theorem dX11_namedIn_16 : decode cX11_namedIn 16 = .ok (.imul, 1) := by decide +kernel
theorem dX11_namedIn_17 : decode cX11_namedIn 17 = .ok (.iload_n 2, 1) := by decide +kernel
theorem dX11_namedIn_18 : decode cX11_namedIn 18 = .ok (.iadd, 1) := by decide +kernel
theorem dX11_namedIn_19 : decode cX11_namedIn 19 = .ok (.iload 4, 2) := by decide +kernel
theorem dX11_namedIn_21 : decode cX11_namedIn 21 = .ok (.iadd, 1) := by decide +kernel
theorem dX11_namedIn_22 : decode cX11_namedIn 22 = .ok (.laload, 1) := by decide +kernel
theorem dX11_namedIn_23 : decode cX11_namedIn 23 = .ok (.aload_n 0, 1) := by decide +kernel
theorem dX11_namedIn_24 : decode cX11_namedIn 24 = .ok (.getfield 151, 3) := by decide +kernel
theorem dX11_namedIn_27 : decode cX11_namedIn 27 = .ok (.lcmp, 1) := by decide +kernel
theorem dX11_namedIn_28 : decode cX11_namedIn 28 = .ok (.ifCond .ne 6, 3) := by decide +kernel
theorem dX11_namedIn_31 : decode cX11_namedIn 31 = .ok (.iload 4, 2) := by decide +kernel
theorem dX11_namedIn_33 : decode cX11_namedIn 33 = .ok (.ireturn, 1) := by decide +kernel
theorem dX11_namedIn_34 : decode cX11_namedIn 34 = .ok (.iinc 4 1, 3) := by decide +kernel
theorem dX11_namedIn_37 : decode cX11_namedIn 37 = .ok (.goto (-34), 3) := by decide +kernel
theorem dX11_namedIn_40 : decode cX11_namedIn 40 = .ok (.iconst (-1), 1) := by decide +kernel
theorem dX11_namedIn_41 : decode cX11_namedIn 41 = .ok (.ireturn, 1) := by decide +kernel
theorem dX11_masterNamed_0 : decode cX11_masterNamed 0 = .ok (.aload_n 0, 1) := by decide +kernel
theorem dX11_masterNamed_1 : decode cX11_masterNamed 1 = .ok (.iload_n 1, 1) := by decide +kernel
theorem dX11_masterNamed_2 : decode cX11_masterNamed 2 = .ok (.iconst 0, 1) := by decide +kernel
theorem dX11_masterNamed_3 : decode cX11_masterNamed 3 = .ok (.aload_n 0, 1) := by decide +kernel
theorem dX11_masterNamed_4 : decode cX11_masterNamed 4 = .ok (.getfield 35, 3) := by decide +kernel
theorem dX11_masterNamed_7 : decode cX11_masterNamed 7 = .ok (.sipush 410, 3) := by decide +kernel
theorem dX11_masterNamed_10 : decode cX11_masterNamed 10 = .ok (.iload_n 1, 1) := by decide +kernel
theorem dX11_masterNamed_11 : decode cX11_masterNamed 11 = .ok (.imul, 1) := by decide +kernel
theorem dX11_masterNamed_12 : decode cX11_masterNamed 12 = .ok (.iaload, 1) := by decide +kernel
theorem dX11_masterNamed_13 : decode cX11_masterNamed 13 = .ok (.invokevirtual 248, 3) := by decide +kernel
theorem dX11_masterNamed_16 : decode cX11_masterNamed 16 = .ok (.ireturn, 1) := by decide +kernel
theorem dX11_lessonNamed_0 : decode cX11_lessonNamed 0 = .ok (.aload_n 0, 1) := by decide +kernel
theorem dX11_lessonNamed_1 : decode cX11_lessonNamed 1 = .ok (.iload_n 1, 1) := by decide +kernel
theorem dX11_lessonNamed_2 : decode cX11_lessonNamed 2 = .ok (.iconst 4, 1) := by decide +kernel
theorem dX11_lessonNamed_3 : decode cX11_lessonNamed 3 = .ok (.aload_n 0, 1) := by decide +kernel
theorem dX11_lessonNamed_4 : decode cX11_lessonNamed 4 = .ok (.getfield 35, 3) := by decide +kernel
theorem dX11_lessonNamed_7 : decode cX11_lessonNamed 7 = .ok (.sipush 410, 3) := by decide +kernel
theorem dX11_lessonNamed_10 : decode cX11_lessonNamed 10 = .ok (.iload_n 1, 1) := by decide +kernel
theorem dX11_lessonNamed_11 : decode cX11_lessonNamed 11 = .ok (.imul, 1) := by decide +kernel
theorem dX11_lessonNamed_12 : decode cX11_lessonNamed 12 = .ok (.iconst 1, 1) := by decide +kernel
theorem dX11_lessonNamed_13 : decode cX11_lessonNamed 13 = .ok (.iadd, 1) := by decide +kernel
theorem dX11_lessonNamed_14 : decode cX11_lessonNamed 14 = .ok (.iaload, 1) := by decide +kernel
theorem dX11_lessonNamed_15 : decode cX11_lessonNamed 15 = .ok (.invokevirtual 248, 3) := by decide +kernel
theorem dX11_lessonNamed_18 : decode cX11_lessonNamed 18 = .ok (.ireturn, 1) := by decide +kernel
theorem dX11_childNamed_0 : decode cX11_childNamed 0 = .ok (.aload_n 0, 1) := by decide +kernel
theorem dX11_childNamed_1 : decode cX11_childNamed 1 = .ok (.iload_n 1, 1) := by decide +kernel
theorem dX11_childNamed_2 : decode cX11_childNamed 2 = .ok (.bipush 16, 2) := by decide +kernel
theorem dX11_childNamed_4 : decode cX11_childNamed 4 = .ok (.aload_n 0, 1) := by decide +kernel
theorem dX11_childNamed_5 : decode cX11_childNamed 5 = .ok (.getfield 35, 3) := by decide +kernel
theorem dX11_childNamed_8 : decode cX11_childNamed 8 = .ok (.sipush 410, 3) := by decide +kernel
theorem dX11_childNamed_11 : decode cX11_childNamed 11 = .ok (.iload_n 1, 1) := by decide +kernel
theorem dX11_childNamed_12 : decode cX11_childNamed 12 = .ok (.imul, 1) := by decide +kernel
theorem dX11_childNamed_13 : decode cX11_childNamed 13 = .ok (.iconst 2, 1) := by decide +kernel
theorem dX11_childNamed_14 : decode cX11_childNamed 14 = .ok (.iadd, 1) := by decide +kernel
theorem dX11_childNamed_15 : decode cX11_childNamed 15 = .ok (.iaload, 1) := by decide +kernel
theorem dX11_childNamed_16 : decode cX11_childNamed 16 = .ok (.invokevirtual 248, 3) := by decide +kernel
theorem dX11_childNamed_19 : decode cX11_childNamed 19 = .ok (.ireturn, 1) := by decide +kernel
theorem dX11_readNew_0 : decode cX11_readNew 0 = .ok (.aload_n 0, 1) := by decide +kernel
theorem dX11_readNew_1 : decode cX11_readNew 1 = .ok (.invokevirtual 235, 3) := by decide +kernel
theorem dX11_readNew_4 : decode cX11_readNew 4 = .ok (.aload_n 0, 1) := by decide +kernel
theorem dX11_readNew_5 : decode cX11_readNew 5 = .ok (.invokevirtual 252, 3) := by decide +kernel
theorem dX11_readNew_8 : decode cX11_readNew 8 = .ok (.ifCond .ne 7, 3) := by decide +kernel
theorem dX11_readNew_11 : decode cX11_readNew 11 = .ok (.aload_n 0, 1) := by decide +kernel
theorem dX11_readNew_12 : decode cX11_readNew 12 = .ok (.invokevirtual 238, 3) := by decide +kernel
theorem dX11_readNew_15 : decode cX11_readNew 15 = .ok (.aload_n 0, 1) := by decide +kernel
theorem dX11_readNew_16 : decode cX11_readNew 16 = .ok (.getfield 225, 3) := by decide +kernel
theorem dX11_readNew_19 : decode cX11_readNew 19 = .ok (.ifCond .ne 36, 3) := by decide +kernel
theorem dX11_readNew_22 : decode cX11_readNew 22 = .ok (.aload_n 0, 1) := by decide +kernel
theorem dX11_readNew_23 : decode cX11_readNew 23 = .ok (.iconst 4, 1) := by decide +kernel
theorem dX11_readNew_24 : decode cX11_readNew 24 = .ok (.invokevirtual 255, 3) := by decide +kernel
theorem dX11_readNew_27 : decode cX11_readNew 27 = .ok (.ifCond .ge 19, 3) := by decide +kernel
theorem dX11_readNew_30 : decode cX11_readNew 30 = .ok (.aload_n 0, 1) := by decide +kernel
theorem dX11_readNew_31 : decode cX11_readNew 31 = .ok (.iconst 4, 1) := by decide +kernel
theorem dX11_readNew_32 : decode cX11_readNew 32 = .ok (.invokevirtual 258, 3) := by decide +kernel
theorem dX11_readNew_35 : decode cX11_readNew 35 = .ok (.ifCond .ge 11, 3) := by decide +kernel
theorem dX11_readNew_38 : decode cX11_readNew 38 = .ok (.aload_n 0, 1) := by decide +kernel
theorem dX11_readNew_39 : decode cX11_readNew 39 = .ok (.iconst 4, 1) := by decide +kernel
theorem dX11_readNew_40 : decode cX11_readNew 40 = .ok (.invokevirtual 261, 3) := by decide +kernel
theorem dX11_readNew_43 : decode cX11_readNew 43 = .ok (.ifCond .lt 12, 3) := by decide +kernel
theorem dX11_readNew_46 : decode cX11_readNew 46 = .ok (.aload_n 0, 1) := by decide +kernel
theorem dX11_readNew_47 : decode cX11_readNew 47 = .ok (.iconst 3, 1) := by decide +kernel
theorem dX11_readNew_48 : decode cX11_readNew 48 = .ok (.aload_n 0, 1) := by decide +kernel
theorem dX11_readNew_49 : decode cX11_readNew 49 = .ok (.getfield 139, 3) := by decide +kernel
theorem dX11_readNew_52 : decode cX11_readNew 52 = .ok (.invokevirtual 231, 3) := by decide +kernel
theorem dX11_readNew_55 : decode cX11_readNew 55 = .ok (.aload_n 0, 1) := by decide +kernel
theorem dX11_readNew_56 : decode cX11_readNew 56 = .ok (.getfield 225, 3) := by decide +kernel
theorem dX11_readNew_59 : decode cX11_readNew 59 = .ok (.ifCond .le 4, 3) := by decide +kernel
theorem dX11_readNew_62 : decode cX11_readNew 62 = .ok (.return_, 1) := by decide +kernel
theorem dX11_readNew_63 : decode cX11_readNew 63 = .ok (.aload_n 0, 1) := by decide +kernel
theorem dX11_readNew_64 : decode cX11_readNew 64 = .ok (.getfield 41, 3) := by decide +kernel
theorem dX11_readNew_67 : decode cX11_readNew 67 = .ok (.bipush 80, 2) := by decide +kernel
theorem dX11_readNew_69 : decode cX11_readNew 69 = .ok (.iload_n 1, 1) := by decide +kernel
theorem dX11_readNew_70 : decode cX11_readNew 70 = .ok (.iadd, 1) := by decide +kernel
theorem dX11_readNew_71 : decode cX11_readNew 71 = .ok (.aload_n 0, 1) := by decide +kernel
theorem dX11_readNew_72 : decode cX11_readNew 72 = .ok (.getfield 151, 3) := by decide +kernel
theorem dX11_readNew_75 : decode cX11_readNew 75 = .ok (.lastore, 1) := by decide +kernel
theorem dX11_readNew_76 : decode cX11_readNew 76 = .ok (.aload_n 0, 1) := by decide +kernel
theorem dX11_readNew_77 : decode cX11_readNew 77 = .ok (.invokevirtual 235, 3) := by decide +kernel
theorem dX11_readNew_80 : decode cX11_readNew 80 = .ok (.return_, 1) := by decide +kernel
theorem dX11_told_0 : decode cX11_told 0 = .ok (.aload_n 0, 1) := by decide +kernel
theorem dX11_told_1 : decode cX11_told 1 = .ok (.getfield 225, 3) := by decide +kernel
theorem dX11_told_4 : decode cX11_told 4 = .ok (.ifCond .ne 14, 3) := by decide +kernel
theorem dX11_told_7 : decode cX11_told 7 = .ok (.aload_n 0, 1) := by decide +kernel
theorem dX11_told_8 : decode cX11_told 8 = .ok (.invokevirtual 252, 3) := by decide +kernel
theorem dX11_told_11 : decode cX11_told 11 = .ok (.ifCond .ne 7, 3) := by decide +kernel
theorem dX11_told_14 : decode cX11_told 14 = .ok (.aload_n 0, 1) := by decide +kernel
theorem dX11_told_15 : decode cX11_told 15 = .ok (.invokevirtual 238, 3) := by decide +kernel
theorem dX11_told_18 : decode cX11_told 18 = .ok (.aload_n 0, 1) := by decide +kernel
theorem dX11_told_19 : decode cX11_told 19 = .ok (.getfield 225, 3) := by decide +kernel
theorem dX11_told_22 : decode cX11_told 22 = .ok (.ifCond .le 5, 3) := by decide +kernel
theorem dX11_told_25 : decode cX11_told 25 = .ok (.iconst 0, 1) := by decide +kernel
theorem dX11_told_26 : decode cX11_told 26 = .ok (.ireturn, 1) := by decide +kernel
theorem dX11_told_27 : decode cX11_told 27 = .ok (.iload_n 2, 1) := by decide +kernel
theorem dX11_told_28 : decode cX11_told 28 = .ok (.ifCond .ne 11, 3) := by decide +kernel
theorem dX11_told_31 : decode cX11_told 31 = .ok (.aload_n 0, 1) := by decide +kernel
theorem dX11_told_32 : decode cX11_told 32 = .ok (.iload_n 1, 1) := by decide +kernel
theorem dX11_told_33 : decode cX11_told 33 = .ok (.invokevirtual 255, 3) := by decide +kernel
theorem dX11_told_36 : decode cX11_told 36 = .ok (.goto 21, 3) := by decide +kernel
theorem dX11_told_39 : decode cX11_told 39 = .ok (.iload_n 2, 1) := by decide +kernel
theorem dX11_told_40 : decode cX11_told 40 = .ok (.iconst 1, 1) := by decide +kernel
theorem dX11_told_41 : decode cX11_told 41 = .ok (.if_icmp .ne 11, 3) := by decide +kernel
theorem dX11_told_44 : decode cX11_told 44 = .ok (.aload_n 0, 1) := by decide +kernel
theorem dX11_told_45 : decode cX11_told 45 = .ok (.iload_n 1, 1) := by decide +kernel
theorem dX11_told_46 : decode cX11_told 46 = .ok (.invokevirtual 258, 3) := by decide +kernel
theorem dX11_told_49 : decode cX11_told 49 = .ok (.goto 8, 3) := by decide +kernel
theorem dX11_told_52 : decode cX11_told 52 = .ok (.aload_n 0, 1) := by decide +kernel
theorem dX11_told_53 : decode cX11_told 53 = .ok (.iload_n 1, 1) := by decide +kernel
theorem dX11_told_54 : decode cX11_told 54 = .ok (.invokevirtual 261, 3) := by decide +kernel
theorem dX11_told_57 : decode cX11_told 57 = .ok (.istore_n 3, 1) := by decide +kernel
theorem dX11_told_58 : decode cX11_told 58 = .ok (.iload_n 3, 1) := by decide +kernel
theorem dX11_told_59 : decode cX11_told 59 = .ok (.ifCond .ge 12, 3) := by decide +kernel
theorem dX11_told_62 : decode cX11_told 62 = .ok (.aload_n 0, 1) := by decide +kernel
theorem dX11_told_63 : decode cX11_told 63 = .ok (.iconst 3, 1) := by decide +kernel
theorem dX11_told_64 : decode cX11_told 64 = .ok (.aload_n 0, 1) := by decide +kernel
theorem dX11_told_65 : decode cX11_told 65 = .ok (.getfield 139, 3) := by decide +kernel
theorem dX11_told_68 : decode cX11_told 68 = .ok (.invokevirtual 231, 3) := by decide +kernel
theorem dX11_told_71 : decode cX11_told 71 = .ok (.iconst 0, 1) := by decide +kernel
theorem dX11_told_72 : decode cX11_told 72 = .ok (.iload_n 3, 1) := by decide +kernel
theorem dX11_told_73 : decode cX11_told 73 = .ok (.invokestatic 264, 3) := by decide +kernel
theorem dX11_told_76 : decode cX11_told 76 = .ok (.ireturn, 1) := by decide +kernel
theorem dX11_readTold_0 : decode cX11_readTold 0 = .ok (.aload_n 0, 1) := by decide +kernel
theorem dX11_readTold_1 : decode cX11_readTold 1 = .ok (.iload_n 1, 1) := by decide +kernel
theorem dX11_readTold_2 : decode cX11_readTold 2 = .ok (.iload_n 2, 1) := by decide +kernel
theorem dX11_readTold_3 : decode cX11_readTold 3 = .ok (.invokevirtual 267, 3) := by decide +kernel
theorem dX11_readTold_6 : decode cX11_readTold 6 = .ok (.istore_n 3, 1) := by decide +kernel
theorem dX11_readTold_7 : decode cX11_readTold 7 = .ok (.aload_n 0, 1) := by decide +kernel
theorem dX11_readTold_8 : decode cX11_readTold 8 = .ok (.iconst 1, 1) := by decide +kernel
theorem dX11_readTold_9 : decode cX11_readTold 9 = .ok (.invokevirtual 270, 3) := by decide +kernel
theorem dX11_readTold_12 : decode cX11_readTold 12 = .ok (.iload_n 3, 1) := by decide +kernel
theorem dX11_readTold_13 : decode cX11_readTold 13 = .ok (.ireturn, 1) := by decide +kernel
theorem dX11_readMaster_0 : decode cX11_readMaster 0 = .ok (.aload_n 0, 1) := by decide +kernel
theorem dX11_readMaster_1 : decode cX11_readMaster 1 = .ok (.getfield 35, 3) := by decide +kernel
theorem dX11_readMaster_4 : decode cX11_readMaster 4 = .ok (.sipush 1640, 3) := by decide +kernel
theorem dX11_readMaster_7 : decode cX11_readMaster 7 = .ok (.iaload, 1) := by decide +kernel
theorem dX11_readMaster_8 : decode cX11_readMaster 8 = .ok (.istore_n 1, 1) := by decide +kernel
theorem dX11_readMaster_9 : decode cX11_readMaster 9 = .ok (.iload_n 1, 1) := by decide +kernel
theorem dX11_readMaster_10 : decode cX11_readMaster 10 = .ok (.iconst 4, 1) := by decide +kernel
theorem dX11_readMaster_11 : decode cX11_readMaster 11 = .ok (.if_icmp .ne 13, 3) := by decide +kernel
theorem dX11_readMaster_14 : decode cX11_readMaster 14 = .ok (.aload_n 0, 1) := by decide +kernel
theorem dX11_readMaster_15 : decode cX11_readMaster 15 = .ok (.bipush 6, 2) := by decide +kernel
theorem dX11_readMaster_17 : decode cX11_readMaster 17 = .ok (.aload_n 0, 1) := by decide +kernel
theorem dX11_readMaster_18 : decode cX11_readMaster 18 = .ok (.getfield 139, 3) := by decide +kernel
theorem dX11_readMaster_21 : decode cX11_readMaster 21 = .ok (.invokevirtual 231, 3) := by decide +kernel
theorem dX11_readMaster_24 : decode cX11_readMaster 24 = .ok (.aload_n 0, 1) := by decide +kernel
theorem dX11_readMaster_25 : decode cX11_readMaster 25 = .ok (.getfield 225, 3) := by decide +kernel
theorem dX11_readMaster_28 : decode cX11_readMaster 28 = .ok (.ifCond .le 4, 3) := by decide +kernel
theorem dX11_readMaster_31 : decode cX11_readMaster 31 = .ok (.return_, 1) := by decide +kernel
theorem dX11_readMaster_32 : decode cX11_readMaster 32 = .ok (.aload_n 0, 1) := by decide +kernel
theorem dX11_readMaster_33 : decode cX11_readMaster 33 = .ok (.iload_n 1, 1) := by decide +kernel
theorem dX11_readMaster_34 : decode cX11_readMaster 34 = .ok (.invokevirtual 274, 3) := by decide +kernel
theorem dX11_readMaster_37 : decode cX11_readMaster 37 = .ok (.aload_n 0, 1) := by decide +kernel
theorem dX11_readMaster_38 : decode cX11_readMaster 38 = .ok (.getfield 225, 3) := by decide +kernel
theorem dX11_readMaster_41 : decode cX11_readMaster 41 = .ok (.ifCond .ne 15, 3) := by decide +kernel
theorem dX11_readMaster_44 : decode cX11_readMaster 44 = .ok (.aload_n 0, 1) := by decide +kernel
theorem dX11_readMaster_45 : decode cX11_readMaster 45 = .ok (.getfield 35, 3) := by decide +kernel
theorem dX11_readMaster_48 : decode cX11_readMaster 48 = .ok (.sipush 1640, 3) := by decide +kernel
theorem dX11_readMaster_51 : decode cX11_readMaster 51 = .ok (.dup2, 1) := by decide +kernel
theorem dX11_readMaster_52 : decode cX11_readMaster 52 = .ok (.iaload, 1) := by decide +kernel
theorem dX11_readMaster_53 : decode cX11_readMaster 53 = .ok (.iconst 1, 1) := by decide +kernel
theorem dX11_readMaster_54 : decode cX11_readMaster 54 = .ok (.iadd, 1) := by decide +kernel
theorem dX11_readMaster_55 : decode cX11_readMaster 55 = .ok (.iastore, 1) := by decide +kernel
theorem dX11_readMaster_56 : decode cX11_readMaster 56 = .ok (.return_, 1) := by decide +kernel
theorem dX11_readNeeds_0 : decode cX11_readNeeds 0 = .ok (.aload_n 0, 1) := by decide +kernel
theorem dX11_readNeeds_1 : decode cX11_readNeeds 1 = .ok (.invokevirtual 235, 3) := by decide +kernel
theorem dX11_readNeeds_4 : decode cX11_readNeeds 4 = .ok (.iconst 1, 1) := by decide +kernel
theorem dX11_readNeeds_5 : decode cX11_readNeeds 5 = .ok (.istore_n 2, 1) := by decide +kernel
theorem dX11_readNeeds_6 : decode cX11_readNeeds 6 = .ok (.aload_n 0, 1) := by decide +kernel
theorem dX11_readNeeds_7 : decode cX11_readNeeds 7 = .ok (.getfield 225, 3) := by decide +kernel
theorem dX11_readNeeds_10 : decode cX11_readNeeds 10 = .ok (.ifCond .ne 92, 3) := by decide +kernel
theorem dX11_readNeeds_13 : decode cX11_readNeeds 13 = .ok (.iload_n 2, 1) := by decide +kernel
theorem dX11_readNeeds_14 : decode cX11_readNeeds 14 = .ok (.ifCond .eq 88, 3) := by decide +kernel
theorem dX11_readNeeds_17 : decode cX11_readNeeds 17 = .ok (.aload_n 0, 1) := by decide +kernel
theorem dX11_readNeeds_18 : decode cX11_readNeeds 18 = .ok (.iconst 4, 1) := by decide +kernel
theorem dX11_readNeeds_19 : decode cX11_readNeeds 19 = .ok (.iconst 1, 1) := by decide +kernel
theorem dX11_readNeeds_20 : decode cX11_readNeeds 20 = .ok (.invokevirtual 267, 3) := by decide +kernel
theorem dX11_readNeeds_23 : decode cX11_readNeeds 23 = .ok (.istore_n 3, 1) := by decide +kernel
theorem dX11_readNeeds_24 : decode cX11_readNeeds 24 = .ok (.aload_n 0, 1) := by decide +kernel
theorem dX11_readNeeds_25 : decode cX11_readNeeds 25 = .ok (.getfield 225, 3) := by decide +kernel
theorem dX11_readNeeds_28 : decode cX11_readNeeds 28 = .ok (.ifCond .ne 29, 3) := by decide +kernel
theorem dX11_readNeeds_31 : decode cX11_readNeeds 31 = .ok (.aload_n 0, 1) := by decide +kernel
theorem dX11_readNeeds_32 : decode cX11_readNeeds 32 = .ok (.getfield 35, 3) := by decide +kernel
theorem dX11_readNeeds_35 : decode cX11_readNeeds 35 = .ok (.sipush 1692, 3) := by decide +kernel
theorem dX11_readNeeds_38 : decode cX11_readNeeds 38 = .ok (.iload_n 1, 1) := by decide +kernel
theorem dX11_readNeeds_39 : decode cX11_readNeeds 39 = .ok (.iadd, 1) := by decide +kernel
theorem dX11_readNeeds_40 : decode cX11_readNeeds 40 = .ok (.iaload, 1) := by decide +kernel
theorem dX11_readNeeds_41 : decode cX11_readNeeds 41 = .ok (.iload_n 3, 1) := by decide +kernel
theorem dX11_readNeeds_42 : decode cX11_readNeeds 42 = .ok (.invokestatic 277, 3) := by decide +kernel
theorem dX11_readNeeds_45 : decode cX11_readNeeds 45 = .ok (.ifCond .eq 12, 3) := by decide +kernel
theorem dX11_readNeeds_48 : decode cX11_readNeeds 48 = .ok (.aload_n 0, 1) := by decide +kernel
theorem dX11_readNeeds_49 : decode cX11_readNeeds 49 = .ok (.iconst 5, 1) := by decide +kernel
theorem dX11_readNeeds_50 : decode cX11_readNeeds 50 = .ok (.aload_n 0, 1) := by decide +kernel
theorem dX11_readNeeds_51 : decode cX11_readNeeds 51 = .ok (.getfield 139, 3) := by decide +kernel
theorem dX11_readNeeds_54 : decode cX11_readNeeds 54 = .ok (.invokevirtual 231, 3) := by decide +kernel
theorem dX11_readNeeds_57 : decode cX11_readNeeds 57 = .ok (.aload_n 0, 1) := by decide +kernel
theorem dX11_readNeeds_58 : decode cX11_readNeeds 58 = .ok (.iconst 1, 1) := by decide +kernel
theorem dX11_readNeeds_59 : decode cX11_readNeeds 59 = .ok (.invokevirtual 270, 3) := by decide +kernel
theorem dX11_readNeeds_62 : decode cX11_readNeeds 62 = .ok (.aload_n 0, 1) := by decide +kernel
theorem dX11_readNeeds_63 : decode cX11_readNeeds 63 = .ok (.getfield 225, 3) := by decide +kernel
theorem dX11_readNeeds_66 : decode cX11_readNeeds 66 = .ok (.ifCond .ne 19, 3) := by decide +kernel
theorem dX11_readNeeds_69 : decode cX11_readNeeds 69 = .ok (.aload_n 0, 1) := by decide +kernel
theorem dX11_readNeeds_70 : decode cX11_readNeeds 70 = .ok (.getfield 35, 3) := by decide +kernel
theorem dX11_readNeeds_73 : decode cX11_readNeeds 73 = .ok (.sipush 1692, 3) := by decide +kernel
theorem dX11_readNeeds_76 : decode cX11_readNeeds 76 = .ok (.iload_n 1, 1) := by decide +kernel
theorem dX11_readNeeds_77 : decode cX11_readNeeds 77 = .ok (.iadd, 1) := by decide +kernel
theorem dX11_readNeeds_78 : decode cX11_readNeeds 78 = .ok (.dup2, 1) := by decide +kernel
theorem dX11_readNeeds_79 : decode cX11_readNeeds 79 = .ok (.iaload, 1) := by decide +kernel
theorem dX11_readNeeds_80 : decode cX11_readNeeds 80 = .ok (.iconst 1, 1) := by decide +kernel
theorem dX11_readNeeds_81 : decode cX11_readNeeds 81 = .ok (.iload_n 3, 1) := by decide +kernel
theorem dX11_readNeeds_82 : decode cX11_readNeeds 82 = .ok (.ishl, 1) := by decide +kernel
theorem dX11_readNeeds_83 : decode cX11_readNeeds 83 = .ok (.ior, 1) := by decide +kernel
theorem dX11_readNeeds_84 : decode cX11_readNeeds 84 = .ok (.iastore, 1) := by decide +kernel
theorem dX11_readNeeds_85 : decode cX11_readNeeds 85 = .ok (.aload_n 0, 1) := by decide +kernel
theorem dX11_readNeeds_86 : decode cX11_readNeeds 86 = .ok (.getfield 145, 3) := by decide +kernel
theorem dX11_readNeeds_89 : decode cX11_readNeeds 89 = .ok (.iconst 1, 1) := by decide +kernel
theorem dX11_readNeeds_90 : decode cX11_readNeeds 90 = .ok (.if_icmp .ne 7, 3) := by decide +kernel
theorem dX11_readNeeds_93 : decode cX11_readNeeds 93 = .ok (.iconst 1, 1) := by decide +kernel
theorem dX11_readNeeds_94 : decode cX11_readNeeds 94 = .ok (.goto 4, 3) := by decide +kernel
theorem dX11_readNeeds_97 : decode cX11_readNeeds 97 = .ok (.iconst 0, 1) := by decide +kernel
theorem dX11_readNeeds_98 : decode cX11_readNeeds 98 = .ok (.istore_n 2, 1) := by decide +kernel
theorem dX11_readNeeds_99 : decode cX11_readNeeds 99 = .ok (.goto (-93), 3) := by decide +kernel
theorem dX11_readNeeds_102 : decode cX11_readNeeds 102 = .ok (.return_, 1) := by decide +kernel
theorem dX11_readLesson_0 : decode cX11_readLesson 0 = .ok (.aload_n 0, 1) := by decide +kernel
theorem dX11_readLesson_1 : decode cX11_readLesson 1 = .ok (.getfield 35, 3) := by decide +kernel
theorem dX11_readLesson_4 : decode cX11_readLesson 4 = .ok (.sipush 1641, 3) := by decide +kernel
theorem dX11_readLesson_7 : decode cX11_readLesson 7 = .ok (.iaload, 1) := by decide +kernel
theorem dX11_readLesson_8 : decode cX11_readLesson 8 = .ok (.istore_n 1, 1) := by decide +kernel
theorem dX11_readLesson_9 : decode cX11_readLesson 9 = .ok (.iload_n 1, 1) := by decide +kernel
theorem dX11_readLesson_10 : decode cX11_readLesson 10 = .ok (.bipush 12, 2) := by decide +kernel
theorem dX11_readLesson_12 : decode cX11_readLesson 12 = .ok (.if_icmp .ne 13, 3) := by decide +kernel
theorem dX11_readLesson_15 : decode cX11_readLesson 15 = .ok (.aload_n 0, 1) := by decide +kernel
theorem dX11_readLesson_16 : decode cX11_readLesson 16 = .ok (.bipush 6, 2) := by decide +kernel
theorem dX11_readLesson_18 : decode cX11_readLesson 18 = .ok (.aload_n 0, 1) := by decide +kernel
theorem dX11_readLesson_19 : decode cX11_readLesson 19 = .ok (.getfield 139, 3) := by decide +kernel
theorem dX11_readLesson_22 : decode cX11_readLesson 22 = .ok (.invokevirtual 231, 3) := by decide +kernel
theorem dX11_readLesson_25 : decode cX11_readLesson 25 = .ok (.aload_n 0, 1) := by decide +kernel
theorem dX11_readLesson_26 : decode cX11_readLesson 26 = .ok (.getfield 225, 3) := by decide +kernel
theorem dX11_readLesson_29 : decode cX11_readLesson 29 = .ok (.ifCond .le 4, 3) := by decide +kernel
theorem dX11_readLesson_32 : decode cX11_readLesson 32 = .ok (.return_, 1) := by decide +kernel
theorem dX11_readLesson_33 : decode cX11_readLesson 33 = .ok (.aload_n 0, 1) := by decide +kernel
theorem dX11_readLesson_34 : decode cX11_readLesson 34 = .ok (.iconst 4, 1) := by decide +kernel
theorem dX11_readLesson_35 : decode cX11_readLesson 35 = .ok (.iload_n 1, 1) := by decide +kernel
theorem dX11_readLesson_36 : decode cX11_readLesson 36 = .ok (.iadd, 1) := by decide +kernel
theorem dX11_readLesson_37 : decode cX11_readLesson 37 = .ok (.invokevirtual 274, 3) := by decide +kernel
theorem dX11_readLesson_40 : decode cX11_readLesson 40 = .ok (.aload_n 0, 1) := by decide +kernel
theorem dX11_readLesson_41 : decode cX11_readLesson 41 = .ok (.aload_n 0, 1) := by decide +kernel
theorem dX11_readLesson_42 : decode cX11_readLesson 42 = .ok (.invokevirtual 185, 3) := by decide +kernel
theorem dX11_readLesson_45 : decode cX11_readLesson 45 = .ok (.invokevirtual 270, 3) := by decide +kernel
theorem dX11_readLesson_48 : decode cX11_readLesson 48 = .ok (.aload_n 0, 1) := by decide +kernel
theorem dX11_readLesson_49 : decode cX11_readLesson 49 = .ok (.getfield 225, 3) := by decide +kernel
theorem dX11_readLesson_52 : decode cX11_readLesson 52 = .ok (.ifCond .le 4, 3) := by decide +kernel
theorem dX11_readLesson_55 : decode cX11_readLesson 55 = .ok (.return_, 1) := by decide +kernel
theorem dX11_readLesson_56 : decode cX11_readLesson 56 = .ok (.aload_n 0, 1) := by decide +kernel
theorem dX11_readLesson_57 : decode cX11_readLesson 57 = .ok (.getfield 35, 3) := by decide +kernel
theorem dX11_readLesson_60 : decode cX11_readLesson 60 = .ok (.sipush 1644, 3) := by decide +kernel
theorem dX11_readLesson_63 : decode cX11_readLesson 63 = .ok (.iload_n 1, 1) := by decide +kernel
theorem dX11_readLesson_64 : decode cX11_readLesson 64 = .ok (.iadd, 1) := by decide +kernel
theorem dX11_readLesson_65 : decode cX11_readLesson 65 = .ok (.aload_n 0, 1) := by decide +kernel
theorem dX11_readLesson_66 : decode cX11_readLesson 66 = .ok (.aload_n 0, 1) := by decide +kernel
theorem dX11_readLesson_67 : decode cX11_readLesson 67 = .ok (.getfield 139, 3) := by decide +kernel
theorem dX11_readLesson_70 : decode cX11_readLesson 70 = .ok (.invokevirtual 142, 3) := by decide +kernel
theorem dX11_readLesson_73 : decode cX11_readLesson 73 = .ok (.bipush 96, 2) := by decide +kernel
theorem dX11_readLesson_75 : decode cX11_readLesson 75 = .ok (.isub, 1) := by decide +kernel
theorem dX11_readLesson_76 : decode cX11_readLesson 76 = .ok (.iastore, 1) := by decide +kernel
theorem dX11_readLesson_77 : decode cX11_readLesson 77 = .ok (.aload_n 0, 1) := by decide +kernel
theorem dX11_readLesson_78 : decode cX11_readLesson 78 = .ok (.aload_n 0, 1) := by decide +kernel
theorem dX11_readLesson_79 : decode cX11_readLesson 79 = .ok (.getfield 145, 3) := by decide +kernel
theorem dX11_readLesson_82 : decode cX11_readLesson 82 = .ok (.iconst 1, 1) := by decide +kernel
theorem dX11_readLesson_83 : decode cX11_readLesson 83 = .ok (.if_icmp .ne 15, 3) := by decide +kernel
theorem dX11_readLesson_86 : decode cX11_readLesson 86 = .ok (.aload_n 0, 1) := by decide +kernel
theorem dX11_readLesson_87 : decode cX11_readLesson 87 = .ok (.getfield 158, 3) := by decide +kernel
theorem dX11_readLesson_90 : decode cX11_readLesson 90 = .ok (.iconst 1, 1) := by decide +kernel
theorem dX11_readLesson_91 : decode cX11_readLesson 91 = .ok (.if_icmp .ne 7, 3) := by decide +kernel
theorem dX11_readLesson_94 : decode cX11_readLesson 94 = .ok (.iconst 1, 1) := by decide +kernel
theorem dX11_readLesson_95 : decode cX11_readLesson 95 = .ok (.goto 4, 3) := by decide +kernel
theorem dX11_readLesson_98 : decode cX11_readLesson 98 = .ok (.iconst 0, 1) := by decide +kernel
theorem dX11_readLesson_99 : decode cX11_readLesson 99 = .ok (.invokevirtual 270, 3) := by decide +kernel
theorem dX11_readLesson_102 : decode cX11_readLesson 102 = .ok (.aload_n 0, 1) := by decide +kernel
theorem dX11_readLesson_103 : decode cX11_readLesson 103 = .ok (.aload_n 0, 1) := by decide +kernel
theorem dX11_readLesson_104 : decode cX11_readLesson 104 = .ok (.invokevirtual 188, 3) := by decide +kernel
theorem dX11_readLesson_107 : decode cX11_readLesson 107 = .ok (.invokevirtual 270, 3) := by decide +kernel
theorem dX11_readLesson_110 : decode cX11_readLesson 110 = .ok (.aload_n 0, 1) := by decide +kernel
theorem dX11_readLesson_111 : decode cX11_readLesson 111 = .ok (.getfield 35, 3) := by decide +kernel
theorem dX11_readLesson_114 : decode cX11_readLesson 114 = .ok (.sipush 1656, 3) := by decide +kernel
theorem dX11_readLesson_117 : decode cX11_readLesson 117 = .ok (.iload_n 1, 1) := by decide +kernel
theorem dX11_readLesson_118 : decode cX11_readLesson 118 = .ok (.iadd, 1) := by decide +kernel
theorem dX11_readLesson_119 : decode cX11_readLesson 119 = .ok (.aload_n 0, 1) := by decide +kernel
theorem dX11_readLesson_120 : decode cX11_readLesson 120 = .ok (.iconst 1, 1) := by decide +kernel
theorem dX11_readLesson_121 : decode cX11_readLesson 121 = .ok (.bipush 30, 2) := by decide +kernel
theorem dX11_readLesson_123 : decode cX11_readLesson 123 = .ok (.invokevirtual 281, 3) := by decide +kernel
theorem dX11_readLesson_126 : decode cX11_readLesson 126 = .ok (.iastore, 1) := by decide +kernel
theorem dX11_readLesson_127 : decode cX11_readLesson 127 = .ok (.aload_n 0, 1) := by decide +kernel
theorem dX11_readLesson_128 : decode cX11_readLesson 128 = .ok (.getfield 35, 3) := by decide +kernel
theorem dX11_readLesson_131 : decode cX11_readLesson 131 = .ok (.sipush 1680, 3) := by decide +kernel
theorem dX11_readLesson_134 : decode cX11_readLesson 134 = .ok (.iload_n 1, 1) := by decide +kernel
theorem dX11_readLesson_135 : decode cX11_readLesson 135 = .ok (.iadd, 1) := by decide +kernel
theorem dX11_readLesson_136 : decode cX11_readLesson 136 = .ok (.iconst (-1), 1) := by decide +kernel
theorem dX11_readLesson_137 : decode cX11_readLesson 137 = .ok (.iastore, 1) := by decide +kernel
theorem dX11_readLesson_138 : decode cX11_readLesson 138 = .ok (.aload_n 0, 1) := by decide +kernel
theorem dX11_readLesson_139 : decode cX11_readLesson 139 = .ok (.getfield 35, 3) := by decide +kernel
theorem dX11_readLesson_142 : decode cX11_readLesson 142 = .ok (.sipush 1692, 3) := by decide +kernel
theorem dX11_readLesson_145 : decode cX11_readLesson 145 = .ok (.iload_n 1, 1) := by decide +kernel
theorem dX11_readLesson_146 : decode cX11_readLesson 146 = .ok (.iadd, 1) := by decide +kernel
theorem dX11_readLesson_147 : decode cX11_readLesson 147 = .ok (.iconst 0, 1) := by decide +kernel
theorem dX11_readLesson_148 : decode cX11_readLesson 148 = .ok (.iastore, 1) := by decide +kernel
theorem dX11_readLesson_149 : decode cX11_readLesson 149 = .ok (.aload_n 0, 1) := by decide +kernel
theorem dX11_readLesson_150 : decode cX11_readLesson 150 = .ok (.getfield 225, 3) := by decide +kernel
theorem dX11_readLesson_153 : decode cX11_readLesson 153 = .ok (.ifCond .ne 31, 3) := by decide +kernel
theorem dX11_readLesson_156 : decode cX11_readLesson 156 = .ok (.aload_n 0, 1) := by decide +kernel
theorem dX11_readLesson_157 : decode cX11_readLesson 157 = .ok (.invokevirtual 191, 3) := by decide +kernel
theorem dX11_readLesson_160 : decode cX11_readLesson 160 = .ok (.ifCond .eq 24, 3) := by decide +kernel
theorem dX11_readLesson_163 : decode cX11_readLesson 163 = .ok (.aload_n 0, 1) := by decide +kernel
theorem dX11_readLesson_164 : decode cX11_readLesson 164 = .ok (.invokevirtual 235, 3) := by decide +kernel
theorem dX11_readLesson_167 : decode cX11_readLesson 167 = .ok (.aload_n 0, 1) := by decide +kernel
theorem dX11_readLesson_168 : decode cX11_readLesson 168 = .ok (.getfield 35, 3) := by decide +kernel
theorem dX11_readLesson_171 : decode cX11_readLesson 171 = .ok (.sipush 1668, 3) := by decide +kernel
theorem dX11_readLesson_174 : decode cX11_readLesson 174 = .ok (.iload_n 1, 1) := by decide +kernel
theorem dX11_readLesson_175 : decode cX11_readLesson 175 = .ok (.iadd, 1) := by decide +kernel
theorem dX11_readLesson_176 : decode cX11_readLesson 176 = .ok (.aload_n 0, 1) := by decide +kernel
theorem dX11_readLesson_177 : decode cX11_readLesson 177 = .ok (.iconst 0, 1) := by decide +kernel
theorem dX11_readLesson_178 : decode cX11_readLesson 178 = .ok (.bipush 99, 2) := by decide +kernel
theorem dX11_readLesson_180 : decode cX11_readLesson 180 = .ok (.invokevirtual 281, 3) := by decide +kernel
theorem dX11_readLesson_183 : decode cX11_readLesson 183 = .ok (.iastore, 1) := by decide +kernel
theorem dX11_readLesson_184 : decode cX11_readLesson 184 = .ok (.aload_n 0, 1) := by decide +kernel
theorem dX11_readLesson_185 : decode cX11_readLesson 185 = .ok (.getfield 225, 3) := by decide +kernel
theorem dX11_readLesson_188 : decode cX11_readLesson 188 = .ok (.ifCond .ne 30, 3) := by decide +kernel
theorem dX11_readLesson_191 : decode cX11_readLesson 191 = .ok (.aload_n 0, 1) := by decide +kernel
theorem dX11_readLesson_192 : decode cX11_readLesson 192 = .ok (.invokevirtual 194, 3) := by decide +kernel
theorem dX11_readLesson_195 : decode cX11_readLesson 195 = .ok (.ifCond .eq 23, 3) := by decide +kernel
theorem dX11_readLesson_198 : decode cX11_readLesson 198 = .ok (.aload_n 0, 1) := by decide +kernel
theorem dX11_readLesson_199 : decode cX11_readLesson 199 = .ok (.invokevirtual 235, 3) := by decide +kernel
theorem dX11_readLesson_202 : decode cX11_readLesson 202 = .ok (.aload_n 0, 1) := by decide +kernel
theorem dX11_readLesson_203 : decode cX11_readLesson 203 = .ok (.getfield 35, 3) := by decide +kernel
theorem dX11_readLesson_206 : decode cX11_readLesson 206 = .ok (.sipush 1680, 3) := by decide +kernel
theorem dX11_readLesson_209 : decode cX11_readLesson 209 = .ok (.iload_n 1, 1) := by decide +kernel
theorem dX11_readLesson_210 : decode cX11_readLesson 210 = .ok (.iadd, 1) := by decide +kernel
theorem dX11_readLesson_211 : decode cX11_readLesson 211 = .ok (.aload_n 0, 1) := by decide +kernel
theorem dX11_readLesson_212 : decode cX11_readLesson 212 = .ok (.iconst 4, 1) := by decide +kernel
theorem dX11_readLesson_213 : decode cX11_readLesson 213 = .ok (.iconst 0, 1) := by decide +kernel
theorem dX11_readLesson_214 : decode cX11_readLesson 214 = .ok (.invokevirtual 284, 3) := by decide +kernel
theorem dX11_readLesson_217 : decode cX11_readLesson 217 = .ok (.iastore, 1) := by decide +kernel
theorem dX11_readLesson_218 : decode cX11_readLesson 218 = .ok (.aload_n 0, 1) := by decide +kernel
theorem dX11_readLesson_219 : decode cX11_readLesson 219 = .ok (.getfield 225, 3) := by decide +kernel
theorem dX11_readLesson_222 : decode cX11_readLesson 222 = .ok (.ifCond .ne 15, 3) := by decide +kernel
theorem dX11_readLesson_225 : decode cX11_readLesson 225 = .ok (.aload_n 0, 1) := by decide +kernel
theorem dX11_readLesson_226 : decode cX11_readLesson 226 = .ok (.invokevirtual 197, 3) := by decide +kernel
theorem dX11_readLesson_229 : decode cX11_readLesson 229 = .ok (.ifCond .eq 8, 3) := by decide +kernel
theorem dX11_readLesson_232 : decode cX11_readLesson 232 = .ok (.aload_n 0, 1) := by decide +kernel
theorem dX11_readLesson_233 : decode cX11_readLesson 233 = .ok (.iload_n 1, 1) := by decide +kernel
theorem dX11_readLesson_234 : decode cX11_readLesson 234 = .ok (.invokevirtual 287, 3) := by decide +kernel
theorem dX11_readLesson_237 : decode cX11_readLesson 237 = .ok (.aload_n 0, 1) := by decide +kernel
theorem dX11_readLesson_238 : decode cX11_readLesson 238 = .ok (.getfield 225, 3) := by decide +kernel
theorem dX11_readLesson_241 : decode cX11_readLesson 241 = .ok (.ifCond .ne 15, 3) := by decide +kernel
theorem dX11_readLesson_244 : decode cX11_readLesson 244 = .ok (.aload_n 0, 1) := by decide +kernel
theorem dX11_readLesson_245 : decode cX11_readLesson 245 = .ok (.getfield 35, 3) := by decide +kernel
theorem dX11_readLesson_248 : decode cX11_readLesson 248 = .ok (.sipush 1641, 3) := by decide +kernel
theorem dX11_readLesson_251 : decode cX11_readLesson 251 = .ok (.dup2, 1) := by decide +kernel
theorem dX11_readLesson_252 : decode cX11_readLesson 252 = .ok (.iaload, 1) := by decide +kernel
theorem dX11_readLesson_253 : decode cX11_readLesson 253 = .ok (.iconst 1, 1) := by decide +kernel
theorem dX11_readLesson_254 : decode cX11_readLesson 254 = .ok (.iadd, 1) := by decide +kernel
theorem dX11_readLesson_255 : decode cX11_readLesson 255 = .ok (.iastore, 1) := by decide +kernel
theorem dX11_readLesson_256 : decode cX11_readLesson 256 = .ok (.return_, 1) := by decide +kernel
theorem dX11_readChild_0 : decode cX11_readChild 0 = .ok (.aload_n 0, 1) := by decide +kernel
theorem dX11_readChild_1 : decode cX11_readChild 1 = .ok (.getfield 35, 3) := by decide +kernel
theorem dX11_readChild_4 : decode cX11_readChild 4 = .ok (.sipush 1642, 3) := by decide +kernel
theorem dX11_readChild_7 : decode cX11_readChild 7 = .ok (.iaload, 1) := by decide +kernel
theorem dX11_readChild_8 : decode cX11_readChild 8 = .ok (.istore_n 1, 1) := by decide +kernel
theorem dX11_readChild_9 : decode cX11_readChild 9 = .ok (.iload_n 1, 1) := by decide +kernel
theorem dX11_readChild_10 : decode cX11_readChild 10 = .ok (.iconst 4, 1) := by decide +kernel
theorem dX11_readChild_11 : decode cX11_readChild 11 = .ok (.if_icmp .ne 13, 3) := by decide +kernel
theorem dX11_readChild_14 : decode cX11_readChild 14 = .ok (.aload_n 0, 1) := by decide +kernel
theorem dX11_readChild_15 : decode cX11_readChild 15 = .ok (.bipush 6, 2) := by decide +kernel
theorem dX11_readChild_17 : decode cX11_readChild 17 = .ok (.aload_n 0, 1) := by decide +kernel
theorem dX11_readChild_18 : decode cX11_readChild 18 = .ok (.getfield 139, 3) := by decide +kernel
theorem dX11_readChild_21 : decode cX11_readChild 21 = .ok (.invokevirtual 231, 3) := by decide +kernel
theorem dX11_readChild_24 : decode cX11_readChild 24 = .ok (.aload_n 0, 1) := by decide +kernel
theorem dX11_readChild_25 : decode cX11_readChild 25 = .ok (.getfield 225, 3) := by decide +kernel
theorem dX11_readChild_28 : decode cX11_readChild 28 = .ok (.ifCond .le 4, 3) := by decide +kernel
theorem dX11_readChild_31 : decode cX11_readChild 31 = .ok (.return_, 1) := by decide +kernel
theorem dX11_readChild_32 : decode cX11_readChild 32 = .ok (.aload_n 0, 1) := by decide +kernel
theorem dX11_readChild_33 : decode cX11_readChild 33 = .ok (.bipush 16, 2) := by decide +kernel
theorem dX11_readChild_35 : decode cX11_readChild 35 = .ok (.iload_n 1, 1) := by decide +kernel
theorem dX11_readChild_36 : decode cX11_readChild 36 = .ok (.iadd, 1) := by decide +kernel
theorem dX11_readChild_37 : decode cX11_readChild 37 = .ok (.invokevirtual 274, 3) := by decide +kernel
theorem dX11_readChild_40 : decode cX11_readChild 40 = .ok (.aload_n 0, 1) := by decide +kernel
theorem dX11_readChild_41 : decode cX11_readChild 41 = .ok (.getfield 225, 3) := by decide +kernel
theorem dX11_readChild_44 : decode cX11_readChild 44 = .ok (.ifCond .ne 31, 3) := by decide +kernel
theorem dX11_readChild_47 : decode cX11_readChild 47 = .ok (.aload_n 0, 1) := by decide +kernel
theorem dX11_readChild_48 : decode cX11_readChild 48 = .ok (.invokevirtual 203, 3) := by decide +kernel
theorem dX11_readChild_51 : decode cX11_readChild 51 = .ok (.ifCond .eq 24, 3) := by decide +kernel
theorem dX11_readChild_54 : decode cX11_readChild 54 = .ok (.aload_n 0, 1) := by decide +kernel
theorem dX11_readChild_55 : decode cX11_readChild 55 = .ok (.invokevirtual 235, 3) := by decide +kernel
theorem dX11_readChild_58 : decode cX11_readChild 58 = .ok (.aload_n 0, 1) := by decide +kernel
theorem dX11_readChild_59 : decode cX11_readChild 59 = .ok (.getfield 35, 3) := by decide +kernel
theorem dX11_readChild_62 : decode cX11_readChild 62 = .ok (.sipush 1704, 3) := by decide +kernel
theorem dX11_readChild_65 : decode cX11_readChild 65 = .ok (.iload_n 1, 1) := by decide +kernel
theorem dX11_readChild_66 : decode cX11_readChild 66 = .ok (.iadd, 1) := by decide +kernel
theorem dX11_readChild_67 : decode cX11_readChild 67 = .ok (.aload_n 0, 1) := by decide +kernel
theorem dX11_readChild_68 : decode cX11_readChild 68 = .ok (.iconst 0, 1) := by decide +kernel
theorem dX11_readChild_69 : decode cX11_readChild 69 = .ok (.bipush 9, 2) := by decide +kernel
theorem dX11_readChild_71 : decode cX11_readChild 71 = .ok (.invokevirtual 281, 3) := by decide +kernel
theorem dX11_readChild_74 : decode cX11_readChild 74 = .ok (.iastore, 1) := by decide +kernel
theorem dX11_readChild_75 : decode cX11_readChild 75 = .ok (.aload_n 0, 1) := by decide +kernel
theorem dX11_readChild_76 : decode cX11_readChild 76 = .ok (.getfield 225, 3) := by decide +kernel
theorem dX11_readChild_79 : decode cX11_readChild 79 = .ok (.ifCond .ne 32, 3) := by decide +kernel
theorem dX11_readChild_82 : decode cX11_readChild 82 = .ok (.aload_n 0, 1) := by decide +kernel
theorem dX11_readChild_83 : decode cX11_readChild 83 = .ok (.invokevirtual 206, 3) := by decide +kernel
theorem dX11_readChild_86 : decode cX11_readChild 86 = .ok (.ifCond .eq 25, 3) := by decide +kernel
theorem dX11_readChild_89 : decode cX11_readChild 89 = .ok (.aload_n 0, 1) := by decide +kernel
theorem dX11_readChild_90 : decode cX11_readChild 90 = .ok (.invokevirtual 235, 3) := by decide +kernel
theorem dX11_readChild_93 : decode cX11_readChild 93 = .ok (.aload_n 0, 1) := by decide +kernel
theorem dX11_readChild_94 : decode cX11_readChild 94 = .ok (.getfield 35, 3) := by decide +kernel
theorem dX11_readChild_97 : decode cX11_readChild 97 = .ok (.sipush 1708, 3) := by decide +kernel
theorem dX11_readChild_100 : decode cX11_readChild 100 = .ok (.iload_n 1, 1) := by decide +kernel
theorem dX11_readChild_101 : decode cX11_readChild 101 = .ok (.iadd, 1) := by decide +kernel
theorem dX11_readChild_102 : decode cX11_readChild 102 = .ok (.aload_n 0, 1) := by decide +kernel
theorem dX11_readChild_103 : decode cX11_readChild 103 = .ok (.iconst 0, 1) := by decide +kernel
theorem dX11_readChild_104 : decode cX11_readChild 104 = .ok (.sipush 999, 3) := by decide +kernel
theorem dX11_readChild_107 : decode cX11_readChild 107 = .ok (.invokevirtual 281, 3) := by decide +kernel
theorem dX11_readChild_110 : decode cX11_readChild 110 = .ok (.iastore, 1) := by decide +kernel
theorem dX11_readChild_111 : decode cX11_readChild 111 = .ok (.aload_n 0, 1) := by decide +kernel
theorem dX11_readChild_112 : decode cX11_readChild 112 = .ok (.getfield 225, 3) := by decide +kernel
theorem dX11_readChild_115 : decode cX11_readChild 115 = .ok (.ifCond .ne 15, 3) := by decide +kernel
theorem dX11_readChild_118 : decode cX11_readChild 118 = .ok (.aload_n 0, 1) := by decide +kernel
theorem dX11_readChild_119 : decode cX11_readChild 119 = .ok (.getfield 35, 3) := by decide +kernel
theorem dX11_readChild_122 : decode cX11_readChild 122 = .ok (.sipush 1642, 3) := by decide +kernel
theorem dX11_readChild_125 : decode cX11_readChild 125 = .ok (.dup2, 1) := by decide +kernel
theorem dX11_readChild_126 : decode cX11_readChild 126 = .ok (.iaload, 1) := by decide +kernel
theorem dX11_readChild_127 : decode cX11_readChild 127 = .ok (.iconst 1, 1) := by decide +kernel
theorem dX11_readChild_128 : decode cX11_readChild 128 = .ok (.iadd, 1) := by decide +kernel
theorem dX11_readChild_129 : decode cX11_readChild 129 = .ok (.iastore, 1) := by decide +kernel
theorem dX11_readChild_130 : decode cX11_readChild 130 = .ok (.return_, 1) := by decide +kernel
theorem dX11_readSounds_0 : decode cX11_readSounds 0 = .ok (.aload_n 0, 1) := by decide +kernel
theorem dX11_readSounds_1 : decode cX11_readSounds 1 = .ok (.getfield 290, 3) := by decide +kernel
theorem dX11_readSounds_4 : decode cX11_readSounds 4 = .ok (.ifCond .eq 12, 3) := by decide +kernel
theorem dX11_readSounds_7 : decode cX11_readSounds 7 = .ok (.aload_n 0, 1) := by decide +kernel
theorem dX11_readSounds_8 : decode cX11_readSounds 8 = .ok (.iconst 5, 1) := by decide +kernel
theorem dX11_readSounds_9 : decode cX11_readSounds 9 = .ok (.aload_n 0, 1) := by decide +kernel
theorem dX11_readSounds_10 : decode cX11_readSounds 10 = .ok (.getfield 139, 3) := by decide +kernel
theorem dX11_readSounds_13 : decode cX11_readSounds 13 = .ok (.invokevirtual 231, 3) := by decide +kernel
theorem dX11_readSounds_16 : decode cX11_readSounds 16 = .ok (.aload_n 0, 1) := by decide +kernel
theorem dX11_readSounds_17 : decode cX11_readSounds 17 = .ok (.getfield 225, 3) := by decide +kernel
theorem dX11_readSounds_20 : decode cX11_readSounds 20 = .ok (.ifCond .le 4, 3) := by decide +kernel
theorem dX11_readSounds_23 : decode cX11_readSounds 23 = .ok (.return_, 1) := by decide +kernel
theorem dX11_readSounds_24 : decode cX11_readSounds 24 = .ok (.aload_n 0, 1) := by decide +kernel
theorem dX11_readSounds_25 : decode cX11_readSounds 25 = .ok (.iconst 1, 1) := by decide +kernel
theorem dX11_readSounds_26 : decode cX11_readSounds 26 = .ok (.putfield 290, 3) := by decide +kernel
theorem dX11_readSounds_29 : decode cX11_readSounds 29 = .ok (.aload_n 0, 1) := by decide +kernel
theorem dX11_readSounds_30 : decode cX11_readSounds 30 = .ok (.invokevirtual 235, 3) := by decide +kernel
theorem dX11_readSounds_33 : decode cX11_readSounds 33 = .ok (.aload_n 0, 1) := by decide +kernel
theorem dX11_readSounds_34 : decode cX11_readSounds 34 = .ok (.getfield 35, 3) := by decide +kernel
theorem dX11_readSounds_37 : decode cX11_readSounds 37 = .ok (.sipush 1643, 3) := by decide +kernel
theorem dX11_readSounds_40 : decode cX11_readSounds 40 = .ok (.aload_n 0, 1) := by decide +kernel
theorem dX11_readSounds_41 : decode cX11_readSounds 41 = .ok (.iconst 1, 1) := by decide +kernel
theorem dX11_readSounds_42 : decode cX11_readSounds 42 = .ok (.bipush 9, 2) := by decide +kernel
theorem dX11_readSounds_44 : decode cX11_readSounds 44 = .ok (.invokevirtual 281, 3) := by decide +kernel
theorem dX11_readSounds_47 : decode cX11_readSounds 47 = .ok (.iastore, 1) := by decide +kernel
theorem dX11_readSounds_48 : decode cX11_readSounds 48 = .ok (.return_, 1) := by decide +kernel
theorem dX11_school_0 : decode cX11_school 0 = .ok (.aload_n 0, 1) := by decide +kernel
theorem dX11_school_1 : decode cX11_school 1 = .ok (.iconst 0, 1) := by decide +kernel
theorem dX11_school_2 : decode cX11_school 2 = .ok (.putfield 94, 3) := by decide +kernel
theorem dX11_school_5 : decode cX11_school 5 = .ok (.aload_n 0, 1) := by decide +kernel
theorem dX11_school_6 : decode cX11_school 6 = .ok (.iconst 0, 1) := by decide +kernel
theorem dX11_school_7 : decode cX11_school 7 = .ok (.putfield 97, 3) := by decide +kernel
theorem dX11_school_10 : decode cX11_school 10 = .ok (.aload_n 0, 1) := by decide +kernel
theorem dX11_school_11 : decode cX11_school 11 = .ok (.iload_n 1, 1) := by decide +kernel
theorem dX11_school_12 : decode cX11_school 12 = .ok (.sipush 900, 3) := by decide +kernel
theorem dX11_school_15 : decode cX11_school 15 = .ok (.invokevirtual 294, 3) := by decide +kernel
theorem dX11_school_18 : decode cX11_school 18 = .ok (.ifCond .ne 5, 3) := by decide +kernel
theorem dX11_school_21 : decode cX11_school 21 = .ok (.iconst (-1), 1) := by decide +kernel
theorem dX11_school_22 : decode cX11_school 22 = .ok (.ireturn, 1) := by decide +kernel
theorem dX11_school_23 : decode cX11_school 23 = .ok (.iconst 0, 1) := by decide +kernel
theorem dX11_school_24 : decode cX11_school 24 = .ok (.istore_n 2, 1) := by decide +kernel
theorem dX11_school_25 : decode cX11_school 25 = .ok (.iload_n 2, 1) := by decide +kernel
theorem dX11_school_26 : decode cX11_school 26 = .ok (.sipush 410, 3) := by decide +kernel
theorem dX11_school_29 : decode cX11_school 29 = .ok (.if_icmp .ge 20, 3) := by decide +kernel
theorem dX11_school_32 : decode cX11_school 32 = .ok (.aload_n 0, 1) := by decide +kernel
theorem dX11_school_33 : decode cX11_school 33 = .ok (.getfield 35, 3) := by decide +kernel
theorem dX11_school_36 : decode cX11_school 36 = .ok (.sipush 1640, 3) := by decide +kernel
theorem dX11_school_39 : decode cX11_school 39 = .ok (.iload_n 2, 1) := by decide +kernel
theorem dX11_school_40 : decode cX11_school 40 = .ok (.iadd, 1) := by decide +kernel
theorem dX11_school_41 : decode cX11_school 41 = .ok (.iconst 0, 1) := by decide +kernel
theorem dX11_school_42 : decode cX11_school 42 = .ok (.iastore, 1) := by decide +kernel
theorem dX11_school_43 : decode cX11_school 43 = .ok (.iinc 2 1, 3) := by decide +kernel
theorem dX11_school_46 : decode cX11_school 46 = .ok (.goto (-21), 3) := by decide +kernel
theorem dX11_school_49 : decode cX11_school 49 = .ok (.aload_n 0, 1) := by decide +kernel
theorem dX11_school_50 : decode cX11_school 50 = .ok (.getfield 35, 3) := by decide +kernel
theorem dX11_school_53 : decode cX11_school 53 = .ok (.sipush 1643, 3) := by decide +kernel
theorem dX11_school_56 : decode cX11_school 56 = .ok (.iconst 2, 1) := by decide +kernel
theorem dX11_school_57 : decode cX11_school 57 = .ok (.iastore, 1) := by decide +kernel
theorem dX11_school_58 : decode cX11_school 58 = .ok (.aload_n 0, 1) := by decide +kernel
theorem dX11_school_59 : decode cX11_school 59 = .ok (.iconst 0, 1) := by decide +kernel
theorem dX11_school_60 : decode cX11_school 60 = .ok (.putfield 290, 3) := by decide +kernel
theorem dX11_school_63 : decode cX11_school 63 = .ok (.aload_n 0, 1) := by decide +kernel
theorem dX11_school_64 : decode cX11_school 64 = .ok (.getfield 225, 3) := by decide +kernel
theorem dX11_school_67 : decode cX11_school 67 = .ok (.ifCond .ne 83, 3) := by decide +kernel
theorem dX11_school_70 : decode cX11_school 70 = .ok (.aload_n 0, 1) := by decide +kernel
theorem dX11_school_71 : decode cX11_school 71 = .ok (.getfield 145, 3) := by decide +kernel
theorem dX11_school_74 : decode cX11_school 74 = .ok (.ifCond .eq 76, 3) := by decide +kernel
theorem dX11_school_77 : decode cX11_school 77 = .ok (.aload_n 0, 1) := by decide +kernel
theorem dX11_school_78 : decode cX11_school 78 = .ok (.invokevirtual 178, 3) := by decide +kernel
theorem dX11_school_81 : decode cX11_school 81 = .ok (.ifCond .eq 10, 3) := by decide +kernel
theorem dX11_school_84 : decode cX11_school 84 = .ok (.aload_n 0, 1) := by decide +kernel
theorem dX11_school_85 : decode cX11_school 85 = .ok (.invokevirtual 297, 3) := by decide +kernel
theorem dX11_school_88 : decode cX11_school 88 = .ok (.goto 49, 3) := by decide +kernel
theorem dX11_school_91 : decode cX11_school 91 = .ok (.aload_n 0, 1) := by decide +kernel
theorem dX11_school_92 : decode cX11_school 92 = .ok (.invokevirtual 182, 3) := by decide +kernel
theorem dX11_school_95 : decode cX11_school 95 = .ok (.ifCond .eq 10, 3) := by decide +kernel
theorem dX11_school_98 : decode cX11_school 98 = .ok (.aload_n 0, 1) := by decide +kernel
theorem dX11_school_99 : decode cX11_school 99 = .ok (.invokevirtual 300, 3) := by decide +kernel
theorem dX11_school_102 : decode cX11_school 102 = .ok (.goto 35, 3) := by decide +kernel
theorem dX11_school_105 : decode cX11_school 105 = .ok (.aload_n 0, 1) := by decide +kernel
theorem dX11_school_106 : decode cX11_school 106 = .ok (.invokevirtual 200, 3) := by decide +kernel
theorem dX11_school_109 : decode cX11_school 109 = .ok (.ifCond .eq 10, 3) := by decide +kernel
theorem dX11_school_112 : decode cX11_school 112 = .ok (.aload_n 0, 1) := by decide +kernel
theorem dX11_school_113 : decode cX11_school 113 = .ok (.invokevirtual 303, 3) := by decide +kernel
theorem dX11_school_116 : decode cX11_school 116 = .ok (.goto 21, 3) := by decide +kernel
theorem dX11_school_119 : decode cX11_school 119 = .ok (.aload_n 0, 1) := by decide +kernel
theorem dX11_school_120 : decode cX11_school 120 = .ok (.invokevirtual 209, 3) := by decide +kernel
theorem dX11_school_123 : decode cX11_school 123 = .ok (.ifCond .eq 10, 3) := by decide +kernel
theorem dX11_school_126 : decode cX11_school 126 = .ok (.aload_n 0, 1) := by decide +kernel
theorem dX11_school_127 : decode cX11_school 127 = .ok (.invokevirtual 306, 3) := by decide +kernel
theorem dX11_school_130 : decode cX11_school 130 = .ok (.goto 7, 3) := by decide +kernel
theorem dX11_school_133 : decode cX11_school 133 = .ok (.aload_n 0, 1) := by decide +kernel
theorem dX11_school_134 : decode cX11_school 134 = .ok (.invokevirtual 238, 3) := by decide +kernel
theorem dX11_school_137 : decode cX11_school 137 = .ok (.aload_n 0, 1) := by decide +kernel
theorem dX11_school_138 : decode cX11_school 138 = .ok (.aload_n 0, 1) := by decide +kernel
theorem dX11_school_139 : decode cX11_school 139 = .ok (.bipush 59, 2) := by decide +kernel
theorem dX11_school_141 : decode cX11_school 141 = .ok (.invokevirtual 309, 3) := by decide +kernel
theorem dX11_school_144 : decode cX11_school 144 = .ok (.invokevirtual 270, 3) := by decide +kernel
theorem dX11_school_147 : decode cX11_school 147 = .ok (.goto (-84), 3) := by decide +kernel
theorem dX11_school_150 : decode cX11_school 150 = .ok (.aload_n 0, 1) := by decide +kernel
theorem dX11_school_151 : decode cX11_school 151 = .ok (.invokevirtual 312, 3) := by decide +kernel
theorem dX11_school_154 : decode cX11_school 154 = .ok (.ifCond .ne 5, 3) := by decide +kernel
theorem dX11_school_157 : decode cX11_school 157 = .ok (.iconst (-1), 1) := by decide +kernel
theorem dX11_school_158 : decode cX11_school 158 = .ok (.ireturn, 1) := by decide +kernel
theorem dX11_school_159 : decode cX11_school 159 = .ok (.aload_n 0, 1) := by decide +kernel
theorem dX11_school_160 : decode cX11_school 160 = .ok (.iconst 4, 1) := by decide +kernel
theorem dX11_school_161 : decode cX11_school 161 = .ok (.iconst 0, 1) := by decide +kernel
theorem dX11_school_162 : decode cX11_school 162 = .ok (.invokevirtual 315, 3) := by decide +kernel
theorem dX11_school_165 : decode cX11_school 165 = .ok (.aload_n 0, 1) := by decide +kernel
theorem dX11_school_166 : decode cX11_school 166 = .ok (.getfield 35, 3) := by decide +kernel
theorem dX11_school_169 : decode cX11_school 169 = .ok (.iconst 1, 1) := by decide +kernel
theorem dX11_school_170 : decode cX11_school 170 = .ok (.iaload, 1) := by decide +kernel
theorem dX11_school_171 : decode cX11_school 171 = .ok (.ireturn, 1) := by decide +kernel
theorem dX11_readTest_0 : decode cX11_readTest 0 = .ok (.aload_n 0, 1) := by decide +kernel
theorem dX11_readTest_1 : decode cX11_readTest 1 = .ok (.invokevirtual 216, 3) := by decide +kernel
theorem dX11_readTest_4 : decode cX11_readTest 4 = .ok (.istore_n 2, 1) := by decide +kernel
theorem dX11_readTest_5 : decode cX11_readTest 5 = .ok (.aload_n 0, 1) := by decide +kernel
theorem dX11_readTest_6 : decode cX11_readTest 6 = .ok (.iload_n 2, 1) := by decide +kernel
theorem dX11_readTest_7 : decode cX11_readTest 7 = .ok (.ifCond .lt 7, 3) := by decide +kernel
theorem dX11_readTest_10 : decode cX11_readTest 10 = .ok (.iconst 1, 1) := by decide +kernel
theorem dX11_readTest_11 : decode cX11_readTest 11 = .ok (.goto 4, 3) := by decide +kernel
theorem dX11_readTest_14 : decode cX11_readTest 14 = .ok (.iconst 0, 1) := by decide +kernel
theorem dX11_readTest_15 : decode cX11_readTest 15 = .ok (.invokevirtual 270, 3) := by decide +kernel
theorem dX11_readTest_18 : decode cX11_readTest 18 = .ok (.aload_n 0, 1) := by decide +kernel
theorem dX11_readTest_19 : decode cX11_readTest 19 = .ok (.getfield 35, 3) := by decide +kernel
theorem dX11_readTest_22 : decode cX11_readTest 22 = .ok (.iload_n 1, 1) := by decide +kernel
theorem dX11_readTest_23 : decode cX11_readTest 23 = .ok (.bipush 6, 2) := by decide +kernel
theorem dX11_readTest_25 : decode cX11_readTest 25 = .ok (.iadd, 1) := by decide +kernel
theorem dX11_readTest_26 : decode cX11_readTest 26 = .ok (.iload_n 2, 1) := by decide +kernel
theorem dX11_readTest_27 : decode cX11_readTest 27 = .ok (.iastore, 1) := by decide +kernel
theorem dX11_readTest_28 : decode cX11_readTest 28 = .ok (.aload_n 0, 1) := by decide +kernel
theorem dX11_readTest_29 : decode cX11_readTest 29 = .ok (.getfield 35, 3) := by decide +kernel
theorem dX11_readTest_32 : decode cX11_readTest 32 = .ok (.iload_n 1, 1) := by decide +kernel
theorem dX11_readTest_33 : decode cX11_readTest 33 = .ok (.iconst 1, 1) := by decide +kernel
theorem dX11_readTest_34 : decode cX11_readTest 34 = .ok (.iadd, 1) := by decide +kernel
theorem dX11_readTest_35 : decode cX11_readTest 35 = .ok (.aload_n 0, 1) := by decide +kernel
theorem dX11_readTest_36 : decode cX11_readTest 36 = .ok (.iconst 0, 1) := by decide +kernel
theorem dX11_readTest_37 : decode cX11_readTest 37 = .ok (.iconst 2, 1) := by decide +kernel
theorem dX11_readTest_38 : decode cX11_readTest 38 = .ok (.invokevirtual 284, 3) := by decide +kernel
theorem dX11_readTest_41 : decode cX11_readTest 41 = .ok (.iastore, 1) := by decide +kernel
theorem dX11_readTest_42 : decode cX11_readTest 42 = .ok (.iload_n 2, 1) := by decide +kernel
theorem dX11_readTest_43 : decode cX11_readTest 43 = .ok (.iconst 2, 1) := by decide +kernel
theorem dX11_readTest_44 : decode cX11_readTest 44 = .ok (.if_icmp .ne 17, 3) := by decide +kernel
theorem dX11_readTest_47 : decode cX11_readTest 47 = .ok (.aload_n 0, 1) := by decide +kernel
theorem dX11_readTest_48 : decode cX11_readTest 48 = .ok (.getfield 35, 3) := by decide +kernel
theorem dX11_readTest_51 : decode cX11_readTest 51 = .ok (.iload_n 1, 1) := by decide +kernel
theorem dX11_readTest_52 : decode cX11_readTest 52 = .ok (.iconst 2, 1) := by decide +kernel
theorem dX11_readTest_53 : decode cX11_readTest 53 = .ok (.iadd, 1) := by decide +kernel
theorem dX11_readTest_54 : decode cX11_readTest 54 = .ok (.aload_n 0, 1) := by decide +kernel
theorem dX11_readTest_55 : decode cX11_readTest 55 = .ok (.iconst 0, 1) := by decide +kernel
theorem dX11_readTest_56 : decode cX11_readTest 56 = .ok (.iconst 1, 1) := by decide +kernel
theorem dX11_readTest_57 : decode cX11_readTest 57 = .ok (.invokevirtual 284, 3) := by decide +kernel
theorem dX11_readTest_60 : decode cX11_readTest 60 = .ok (.iastore, 1) := by decide +kernel
theorem dX11_readTest_61 : decode cX11_readTest 61 = .ok (.aload_n 0, 1) := by decide +kernel
theorem dX11_readTest_62 : decode cX11_readTest 62 = .ok (.getfield 225, 3) := by decide +kernel
theorem dX11_readTest_65 : decode cX11_readTest 65 = .ok (.ifCond .gt 7, 3) := by decide +kernel
theorem dX11_readTest_68 : decode cX11_readTest 68 = .ok (.iload_n 2, 1) := by decide +kernel
theorem dX11_readTest_69 : decode cX11_readTest 69 = .ok (.ifCond .eq 4, 3) := by decide +kernel
theorem dX11_readTest_72 : decode cX11_readTest 72 = .ok (.return_, 1) := by decide +kernel
theorem dX11_readTest_73 : decode cX11_readTest 73 = .ok (.aload_n 0, 1) := by decide +kernel
theorem dX11_readTest_74 : decode cX11_readTest 74 = .ok (.getfield 35, 3) := by decide +kernel
theorem dX11_readTest_77 : decode cX11_readTest 77 = .ok (.iload_n 1, 1) := by decide +kernel
theorem dX11_readTest_78 : decode cX11_readTest 78 = .ok (.bipush 7, 2) := by decide +kernel
theorem dX11_readTest_80 : decode cX11_readTest 80 = .ok (.iadd, 1) := by decide +kernel
theorem dX11_readTest_81 : decode cX11_readTest 81 = .ok (.aload_n 0, 1) := by decide +kernel
theorem dX11_readTest_82 : decode cX11_readTest 82 = .ok (.getfield 145, 3) := by decide +kernel
theorem dX11_readTest_85 : decode cX11_readTest 85 = .ok (.iconst 3, 1) := by decide +kernel
theorem dX11_readTest_86 : decode cX11_readTest 86 = .ok (.if_icmp .ne 10, 3) := by decide +kernel
theorem dX11_readTest_89 : decode cX11_readTest 89 = .ok (.aload_n 0, 1) := by decide +kernel
theorem dX11_readTest_90 : decode cX11_readTest 90 = .ok (.getfield 164, 3) := by decide +kernel
theorem dX11_readTest_93 : decode cX11_readTest 93 = .ok (.goto 4, 3) := by decide +kernel
theorem dX11_readTest_96 : decode cX11_readTest 96 = .ok (.iconst 0, 1) := by decide +kernel
theorem dX11_readTest_97 : decode cX11_readTest 97 = .ok (.iastore, 1) := by decide +kernel
theorem dX11_readTest_98 : decode cX11_readTest 98 = .ok (.aload_n 0, 1) := by decide +kernel
theorem dX11_readTest_99 : decode cX11_readTest 99 = .ok (.aload_n 0, 1) := by decide +kernel
theorem dX11_readTest_100 : decode cX11_readTest 100 = .ok (.bipush 60, 2) := by decide +kernel
theorem dX11_readTest_102 : decode cX11_readTest 102 = .ok (.invokevirtual 309, 3) := by decide +kernel
theorem dX11_readTest_105 : decode cX11_readTest 105 = .ok (.ifCond .ne 21, 3) := by decide +kernel
theorem dX11_readTest_108 : decode cX11_readTest 108 = .ok (.aload_n 0, 1) := by decide +kernel
theorem dX11_readTest_109 : decode cX11_readTest 109 = .ok (.bipush 62, 2) := by decide +kernel
theorem dX11_readTest_111 : decode cX11_readTest 111 = .ok (.invokevirtual 309, 3) := by decide +kernel
theorem dX11_readTest_114 : decode cX11_readTest 114 = .ok (.ifCond .ne 12, 3) := by decide +kernel
theorem dX11_readTest_117 : decode cX11_readTest 117 = .ok (.aload_n 0, 1) := by decide +kernel
theorem dX11_readTest_118 : decode cX11_readTest 118 = .ok (.bipush 61, 2) := by decide +kernel
theorem dX11_readTest_120 : decode cX11_readTest 120 = .ok (.invokevirtual 309, 3) := by decide +kernel
theorem dX11_readTest_123 : decode cX11_readTest 123 = .ok (.ifCond .eq 7, 3) := by decide +kernel
theorem dX11_readTest_126 : decode cX11_readTest 126 = .ok (.iconst 1, 1) := by decide +kernel
theorem dX11_readTest_127 : decode cX11_readTest 127 = .ok (.goto 4, 3) := by decide +kernel
theorem dX11_readTest_130 : decode cX11_readTest 130 = .ok (.iconst 0, 1) := by decide +kernel
theorem dX11_readTest_131 : decode cX11_readTest 131 = .ok (.invokevirtual 270, 3) := by decide +kernel
theorem dX11_readTest_134 : decode cX11_readTest 134 = .ok (.aload_n 0, 1) := by decide +kernel
theorem dX11_readTest_135 : decode cX11_readTest 135 = .ok (.getfield 35, 3) := by decide +kernel
theorem dX11_readTest_138 : decode cX11_readTest 138 = .ok (.iload_n 1, 1) := by decide +kernel
theorem dX11_readTest_139 : decode cX11_readTest 139 = .ok (.iconst 2, 1) := by decide +kernel
theorem dX11_readTest_140 : decode cX11_readTest 140 = .ok (.iadd, 1) := by decide +kernel
theorem dX11_readTest_141 : decode cX11_readTest 141 = .ok (.aload_n 0, 1) := by decide +kernel
theorem dX11_readTest_142 : decode cX11_readTest 142 = .ok (.iconst 0, 1) := by decide +kernel
theorem dX11_readTest_143 : decode cX11_readTest 143 = .ok (.bipush 12, 2) := by decide +kernel
theorem dX11_readTest_145 : decode cX11_readTest 145 = .ok (.invokevirtual 281, 3) := by decide +kernel
theorem dX11_readTest_148 : decode cX11_readTest 148 = .ok (.iastore, 1) := by decide +kernel
