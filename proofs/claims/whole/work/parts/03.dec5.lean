theorem dX11_fill_177 : decode cX11_fill 177 = .ok (.aload_n 0, 1) := by decide +kernel
theorem dX11_fill_178 : decode cX11_fill 178 = .ok (.getfield 50, 3) := by decide +kernel
theorem dX11_fill_181 : decode cX11_fill 181 = .ok (.iload 4, 2) := by decide +kernel
theorem dX11_fill_183 : decode cX11_fill 183 = .ok (.iaload, 1) := by decide +kernel
theorem dX11_fill_184 : decode cX11_fill 184 = .ok (.aload_n 0, 1) := by decide +kernel
theorem dX11_fill_185 : decode cX11_fill 185 = .ok (.getfield 35, 3) := by decide +kernel
theorem dX11_fill_188 : decode cX11_fill 188 = .ok (.bipush 16, 2) := by decide +kernel
theorem dX11_fill_190 : decode cX11_fill 190 = .ok (.iload_n 3, 1) := by decide +kernel
theorem dX11_fill_191 : decode cX11_fill 191 = .ok (.iadd, 1) := by decide +kernel
theorem dX11_fill_192 : decode cX11_fill 192 = .ok (.iaload, 1) := by decide +kernel
theorem dX11_fill_193 : decode cX11_fill 193 = .ok (.iadd, 1) := by decide +kernel
theorem dX11_fill_194 : decode cX11_fill 194 = .ok (.invokestatic 421, 3) := by decide +kernel
theorem dX11_fill_197 : decode cX11_fill 197 = .ok (.iastore, 1) := by decide +kernel
theorem dX11_fill_198 : decode cX11_fill 198 = .ok (.aload_n 0, 1) := by decide +kernel
theorem dX11_fill_199 : decode cX11_fill 199 = .ok (.getfield 53, 3) := by decide +kernel
theorem dX11_fill_202 : decode cX11_fill 202 = .ok (.iload_n 1, 1) := by decide +kernel
theorem dX11_fill_203 : decode cX11_fill 203 = .ok (.aload_n 0, 1) := by decide +kernel
theorem dX11_fill_204 : decode cX11_fill 204 = .ok (.getfield 53, 3) := by decide +kernel
theorem dX11_fill_207 : decode cX11_fill 207 = .ok (.iload_n 1, 1) := by decide +kernel
theorem dX11_fill_208 : decode cX11_fill 208 = .ok (.iaload, 1) := by decide +kernel
theorem dX11_fill_209 : decode cX11_fill 209 = .ok (.aload_n 0, 1) := by decide +kernel
theorem dX11_fill_210 : decode cX11_fill 210 = .ok (.getfield 53, 3) := by decide +kernel
theorem dX11_fill_213 : decode cX11_fill 213 = .ok (.iload 4, 2) := by decide +kernel
theorem dX11_fill_215 : decode cX11_fill 215 = .ok (.iaload, 1) := by decide +kernel
theorem dX11_fill_216 : decode cX11_fill 216 = .ok (.aload_n 0, 1) := by decide +kernel
theorem dX11_fill_217 : decode cX11_fill 217 = .ok (.getfield 35, 3) := by decide +kernel
theorem dX11_fill_220 : decode cX11_fill 220 = .ok (.bipush 28, 2) := by decide +kernel
theorem dX11_fill_222 : decode cX11_fill 222 = .ok (.iload_n 3, 1) := by decide +kernel
theorem dX11_fill_223 : decode cX11_fill 223 = .ok (.iadd, 1) := by decide +kernel
theorem dX11_fill_224 : decode cX11_fill 224 = .ok (.iaload, 1) := by decide +kernel
theorem dX11_fill_225 : decode cX11_fill 225 = .ok (.iadd, 1) := by decide +kernel
theorem dX11_fill_226 : decode cX11_fill 226 = .ok (.invokestatic 421, 3) := by decide +kernel
theorem dX11_fill_229 : decode cX11_fill 229 = .ok (.iastore, 1) := by decide +kernel
theorem dX11_fill_230 : decode cX11_fill 230 = .ok (.iinc 3 1, 3) := by decide +kernel
theorem dX11_fill_233 : decode cX11_fill 233 = .ok (.goto (-152), 3) := by decide +kernel
theorem dX11_fill_236 : decode cX11_fill 236 = .ok (.iinc 1 1, 3) := by decide +kernel
theorem dX11_fill_239 : decode cX11_fill 239 = .ok (.goto (-237), 3) := by decide +kernel
theorem dX11_fill_242 : decode cX11_fill 242 = .ok (.return_, 1) := by decide +kernel
theorem dX11_allWays_0 : decode cX11_allWays 0 = .ok (.lconst 0, 1) := by decide +kernel
theorem dX11_allWays_1 : decode cX11_allWays 1 = .ok (.lstore_n 2, 1) := by decide +kernel
theorem dX11_allWays_2 : decode cX11_allWays 2 = .ok (.iconst 0, 1) := by decide +kernel
theorem dX11_allWays_3 : decode cX11_allWays 3 = .ok (.istore 4, 2) := by decide +kernel
theorem dX11_allWays_5 : decode cX11_allWays 5 = .ok (.iload 4, 2) := by decide +kernel
theorem dX11_allWays_7 : decode cX11_allWays 7 = .ok (.iconst 1, 1) := by decide +kernel
theorem dX11_allWays_8 : decode cX11_allWays 8 = .ok (.aload_n 0, 1) := by decide +kernel
theorem dX11_allWays_9 : decode cX11_allWays 9 = .ok (.getfield 35, 3) := by decide +kernel
theorem dX11_allWays_12 : decode cX11_allWays 12 = .ok (.iconst 1, 1) := by decide +kernel
theorem dX11_allWays_13 : decode cX11_allWays 13 = .ok (.iaload, 1) := by decide +kernel
theorem dX11_allWays_14 : decode cX11_allWays 14 = .ok (.ishl, 1) := by decide +kernel
theorem dX11_allWays_15 : decode cX11_allWays 15 = .ok (.if_icmp .ge 32, 3) := by decide +kernel
theorem dX11_allWays_18 : decode cX11_allWays 18 = .ok (.lload_n 2, 1) := by decide +kernel
theorem dX11_allWays_19 : decode cX11_allWays 19 = .ok (.iload 4, 2) := by decide +kernel
theorem dX11_allWays_21 : decode cX11_allWays 21 = .ok (.invokestatic 381, 3) := by decide +kernel
theorem dX11_allWays_24 : decode cX11_allWays 24 = .ok (.iload_n 1, 1) := by decide +kernel
theorem dX11_allWays_25 : decode cX11_allWays 25 = .ok (.if_icmp .ne 13, 3) := by decide +kernel
theorem dX11_allWays_28 : decode cX11_allWays 28 = .ok (.aload_n 0, 1) := by decide +kernel
theorem dX11_allWays_29 : decode cX11_allWays 29 = .ok (.getfield 47, 3) := by decide +kernel
theorem dX11_allWays_32 : decode cX11_allWays 32 = .ok (.iload 4, 2) := by decide +kernel
theorem dX11_allWays_34 : decode cX11_allWays 34 = .ok (.laload, 1) := by decide +kernel
theorem dX11_allWays_35 : decode cX11_allWays 35 = .ok (.goto 4, 3) := by decide +kernel
theorem dX11_allWays_38 : decode cX11_allWays 38 = .ok (.lconst 0, 1) := by decide +kernel
theorem dX11_allWays_39 : decode cX11_allWays 39 = .ok (.ladd, 1) := by decide +kernel
theorem dX11_allWays_40 : decode cX11_allWays 40 = .ok (.lstore_n 2, 1) := by decide +kernel
theorem dX11_allWays_41 : decode cX11_allWays 41 = .ok (.iinc 4 1, 3) := by decide +kernel
theorem dX11_allWays_44 : decode cX11_allWays 44 = .ok (.goto (-39), 3) := by decide +kernel
theorem dX11_allWays_47 : decode cX11_allWays 47 = .ok (.lload_n 2, 1) := by decide +kernel
theorem dX11_allWays_48 : decode cX11_allWays 48 = .ok (.lreturn, 1) := by decide +kernel
theorem dX11_isTold_0 : decode cX11_isTold 0 = .ok (.aload_n 0, 1) := by decide +kernel
theorem dX11_isTold_1 : decode cX11_isTold 1 = .ok (.iload_n 1, 1) := by decide +kernel
theorem dX11_isTold_2 : decode cX11_isTold 2 = .ok (.invokevirtual 351, 3) := by decide +kernel
theorem dX11_isTold_5 : decode cX11_isTold 5 = .ok (.ifCond .ne 9, 3) := by decide +kernel
theorem dX11_isTold_8 : decode cX11_isTold 8 = .ok (.aload_n 0, 1) := by decide +kernel
theorem dX11_isTold_9 : decode cX11_isTold 9 = .ok (.iconst 1, 1) := by decide +kernel
theorem dX11_isTold_10 : decode cX11_isTold 10 = .ok (.invokevirtual 109, 3) := by decide +kernel
theorem dX11_isTold_13 : decode cX11_isTold 13 = .ok (.ireturn, 1) := by decide +kernel
theorem dX11_isTold_14 : decode cX11_isTold 14 = .ok (.aload_n 0, 1) := by decide +kernel
theorem dX11_isTold_15 : decode cX11_isTold 15 = .ok (.getfield 17, 3) := by decide +kernel
theorem dX11_isTold_18 : decode cX11_isTold 18 = .ok (.iload_n 1, 1) := by decide +kernel
theorem dX11_isTold_19 : decode cX11_isTold 19 = .ok (.iaload, 1) := by decide +kernel
theorem dX11_isTold_20 : decode cX11_isTold 20 = .ok (.ifCond .ge 9, 3) := by decide +kernel
theorem dX11_isTold_23 : decode cX11_isTold 23 = .ok (.aload_n 0, 1) := by decide +kernel
theorem dX11_isTold_24 : decode cX11_isTold 24 = .ok (.iconst 3, 1) := by decide +kernel
theorem dX11_isTold_25 : decode cX11_isTold 25 = .ok (.invokevirtual 109, 3) := by decide +kernel
theorem dX11_isTold_28 : decode cX11_isTold 28 = .ok (.ireturn, 1) := by decide +kernel
theorem dX11_isTold_29 : decode cX11_isTold 29 = .ok (.aload_n 0, 1) := by decide +kernel
theorem dX11_isTold_30 : decode cX11_isTold 30 = .ok (.getfield 17, 3) := by decide +kernel
theorem dX11_isTold_33 : decode cX11_isTold 33 = .ok (.iload_n 1, 1) := by decide +kernel
theorem dX11_isTold_34 : decode cX11_isTold 34 = .ok (.iaload, 1) := by decide +kernel
theorem dX11_isTold_35 : decode cX11_isTold 35 = .ok (.iload_n 2, 1) := by decide +kernel
theorem dX11_isTold_36 : decode cX11_isTold 36 = .ok (.if_icmp .ge 9, 3) := by decide +kernel
theorem dX11_isTold_39 : decode cX11_isTold 39 = .ok (.aload_n 0, 1) := by decide +kernel
theorem dX11_isTold_40 : decode cX11_isTold 40 = .ok (.iconst 4, 1) := by decide +kernel
theorem dX11_isTold_41 : decode cX11_isTold 41 = .ok (.invokevirtual 109, 3) := by decide +kernel
theorem dX11_isTold_44 : decode cX11_isTold 44 = .ok (.ireturn, 1) := by decide +kernel
theorem dX11_isTold_45 : decode cX11_isTold 45 = .ok (.iload_n 2, 1) := by decide +kernel
theorem dX11_isTold_46 : decode cX11_isTold 46 = .ok (.i2l, 1) := by decide +kernel
theorem dX11_isTold_47 : decode cX11_isTold 47 = .ok (.lconst 0, 1) := by decide +kernel
theorem dX11_isTold_48 : decode cX11_isTold 48 = .ok (.ldc2_w 414, 3) := by decide +kernel
theorem dX11_isTold_51 : decode cX11_isTold 51 = .ok (.invokestatic 129, 3) := by decide +kernel
theorem dX11_isTold_54 : decode cX11_isTold 54 = .ok (.ifCond .ne 9, 3) := by decide +kernel
theorem dX11_isTold_57 : decode cX11_isTold 57 = .ok (.aload_n 0, 1) := by decide +kernel
theorem dX11_isTold_58 : decode cX11_isTold 58 = .ok (.iconst 5, 1) := by decide +kernel
theorem dX11_isTold_59 : decode cX11_isTold 59 = .ok (.invokevirtual 109, 3) := by decide +kernel
theorem dX11_isTold_62 : decode cX11_isTold 62 = .ok (.ireturn, 1) := by decide +kernel
theorem dX11_isTold_63 : decode cX11_isTold 63 = .ok (.iconst 0, 1) := by decide +kernel
theorem dX11_isTold_64 : decode cX11_isTold 64 = .ok (.istore_n 3, 1) := by decide +kernel
theorem dX11_isTold_65 : decode cX11_isTold 65 = .ok (.iload_n 3, 1) := by decide +kernel
theorem dX11_isTold_66 : decode cX11_isTold 66 = .ok (.iload_n 2, 1) := by decide +kernel
theorem dX11_isTold_67 : decode cX11_isTold 67 = .ok (.if_icmp .ge 44, 3) := by decide +kernel
theorem dX11_isTold_70 : decode cX11_isTold 70 = .ok (.aload_n 0, 1) := by decide +kernel
theorem dX11_isTold_71 : decode cX11_isTold 71 = .ok (.iload_n 1, 1) := by decide +kernel
theorem dX11_isTold_72 : decode cX11_isTold 72 = .ok (.iload_n 3, 1) := by decide +kernel
theorem dX11_isTold_73 : decode cX11_isTold 73 = .ok (.invokevirtual 416, 3) := by decide +kernel
theorem dX11_isTold_76 : decode cX11_isTold 76 = .ok (.lconst 1, 1) := by decide +kernel
theorem dX11_isTold_77 : decode cX11_isTold 77 = .ok (.ldc2_w 424, 3) := by decide +kernel
theorem dX11_isTold_80 : decode cX11_isTold 80 = .ok (.invokestatic 129, 3) := by decide +kernel
theorem dX11_isTold_83 : decode cX11_isTold 83 = .ok (.ifCond .ne 9, 3) := by decide +kernel
theorem dX11_isTold_86 : decode cX11_isTold 86 = .ok (.aload_n 0, 1) := by decide +kernel
theorem dX11_isTold_87 : decode cX11_isTold 87 = .ok (.iconst 5, 1) := by decide +kernel
theorem dX11_isTold_88 : decode cX11_isTold 88 = .ok (.invokevirtual 109, 3) := by decide +kernel
theorem dX11_isTold_91 : decode cX11_isTold 91 = .ok (.ireturn, 1) := by decide +kernel
theorem dX11_isTold_92 : decode cX11_isTold 92 = .ok (.aload_n 0, 1) := by decide +kernel
theorem dX11_isTold_93 : decode cX11_isTold 93 = .ok (.getfield 44, 3) := by decide +kernel
theorem dX11_isTold_96 : decode cX11_isTold 96 = .ok (.iload_n 3, 1) := by decide +kernel
theorem dX11_isTold_97 : decode cX11_isTold 97 = .ok (.aload_n 0, 1) := by decide +kernel
theorem dX11_isTold_98 : decode cX11_isTold 98 = .ok (.iload_n 1, 1) := by decide +kernel
theorem dX11_isTold_99 : decode cX11_isTold 99 = .ok (.iload_n 3, 1) := by decide +kernel
theorem dX11_isTold_100 : decode cX11_isTold 100 = .ok (.invokevirtual 416, 3) := by decide +kernel
theorem dX11_isTold_103 : decode cX11_isTold 103 = .ok (.l2i, 1) := by decide +kernel
theorem dX11_isTold_104 : decode cX11_isTold 104 = .ok (.iastore, 1) := by decide +kernel
theorem dX11_isTold_105 : decode cX11_isTold 105 = .ok (.iinc 3 1, 3) := by decide +kernel
theorem dX11_isTold_108 : decode cX11_isTold 108 = .ok (.goto (-43), 3) := by decide +kernel
theorem dX11_isTold_111 : decode cX11_isTold 111 = .ok (.aload_n 0, 1) := by decide +kernel
theorem dX11_isTold_112 : decode cX11_isTold 112 = .ok (.iload_n 2, 1) := by decide +kernel
theorem dX11_isTold_113 : decode cX11_isTold 113 = .ok (.putfield 384, 3) := by decide +kernel
theorem dX11_isTold_116 : decode cX11_isTold 116 = .ok (.aload_n 0, 1) := by decide +kernel
theorem dX11_isTold_117 : decode cX11_isTold 117 = .ok (.invokevirtual 426, 3) := by decide +kernel
theorem dX11_isTold_120 : decode cX11_isTold 120 = .ok (.iconst 1, 1) := by decide +kernel
theorem dX11_isTold_121 : decode cX11_isTold 121 = .ok (.ireturn, 1) := by decide +kernel
theorem dX11_leastOf_0 : decode cX11_leastOf 0 = .ok (.ldc_w 420, 3) := by decide +kernel
theorem dX11_leastOf_3 : decode cX11_leastOf 3 = .ok (.istore_n 2, 1) := by decide +kernel
theorem dX11_leastOf_4 : decode cX11_leastOf 4 = .ok (.iconst 0, 1) := by decide +kernel
theorem dX11_leastOf_5 : decode cX11_leastOf 5 = .ok (.istore_n 3, 1) := by decide +kernel
theorem dX11_leastOf_6 : decode cX11_leastOf 6 = .ok (.iload_n 3, 1) := by decide +kernel
theorem dX11_leastOf_7 : decode cX11_leastOf 7 = .ok (.iconst 1, 1) := by decide +kernel
theorem dX11_leastOf_8 : decode cX11_leastOf 8 = .ok (.aload_n 0, 1) := by decide +kernel
theorem dX11_leastOf_9 : decode cX11_leastOf 9 = .ok (.getfield 35, 3) := by decide +kernel
theorem dX11_leastOf_12 : decode cX11_leastOf 12 = .ok (.iconst 1, 1) := by decide +kernel
theorem dX11_leastOf_13 : decode cX11_leastOf 13 = .ok (.iaload, 1) := by decide +kernel
theorem dX11_leastOf_14 : decode cX11_leastOf 14 = .ok (.ishl, 1) := by decide +kernel
theorem dX11_leastOf_15 : decode cX11_leastOf 15 = .ok (.if_icmp .ge 44, 3) := by decide +kernel
theorem dX11_leastOf_18 : decode cX11_leastOf 18 = .ok (.iload_n 3, 1) := by decide +kernel
theorem dX11_leastOf_19 : decode cX11_leastOf 19 = .ok (.invokestatic 381, 3) := by decide +kernel
theorem dX11_leastOf_22 : decode cX11_leastOf 22 = .ok (.aload_n 0, 1) := by decide +kernel
theorem dX11_leastOf_23 : decode cX11_leastOf 23 = .ok (.getfield 384, 3) := by decide +kernel
theorem dX11_leastOf_26 : decode cX11_leastOf 26 = .ok (.if_icmp .ne 27, 3) := by decide +kernel
theorem dX11_leastOf_29 : decode cX11_leastOf 29 = .ok (.iload_n 2, 1) := by decide +kernel
theorem dX11_leastOf_30 : decode cX11_leastOf 30 = .ok (.iload_n 1, 1) := by decide +kernel
theorem dX11_leastOf_31 : decode cX11_leastOf 31 = .ok (.ifCond .eq 12, 3) := by decide +kernel
theorem dX11_leastOf_34 : decode cX11_leastOf 34 = .ok (.aload_n 0, 1) := by decide +kernel
theorem dX11_leastOf_35 : decode cX11_leastOf 35 = .ok (.getfield 53, 3) := by decide +kernel
theorem dX11_leastOf_38 : decode cX11_leastOf 38 = .ok (.iload_n 3, 1) := by decide +kernel
theorem dX11_leastOf_39 : decode cX11_leastOf 39 = .ok (.iaload, 1) := by decide +kernel
theorem dX11_leastOf_40 : decode cX11_leastOf 40 = .ok (.goto 9, 3) := by decide +kernel
theorem dX11_leastOf_43 : decode cX11_leastOf 43 = .ok (.aload_n 0, 1) := by decide +kernel
theorem dX11_leastOf_44 : decode cX11_leastOf 44 = .ok (.getfield 50, 3) := by decide +kernel
theorem dX11_leastOf_47 : decode cX11_leastOf 47 = .ok (.iload_n 3, 1) := by decide +kernel
theorem dX11_leastOf_48 : decode cX11_leastOf 48 = .ok (.iaload, 1) := by decide +kernel
theorem dX11_leastOf_49 : decode cX11_leastOf 49 = .ok (.invokestatic 421, 3) := by decide +kernel
theorem dX11_leastOf_52 : decode cX11_leastOf 52 = .ok (.istore_n 2, 1) := by decide +kernel
theorem dX11_leastOf_53 : decode cX11_leastOf 53 = .ok (.iinc 3 1, 3) := by decide +kernel
theorem dX11_leastOf_56 : decode cX11_leastOf 56 = .ok (.goto (-50), 3) := by decide +kernel
theorem dX11_leastOf_59 : decode cX11_leastOf 59 = .ok (.iload_n 2, 1) := by decide +kernel
theorem dX11_leastOf_60 : decode cX11_leastOf 60 = .ok (.ldc_w 420, 3) := by decide +kernel
theorem dX11_leastOf_63 : decode cX11_leastOf 63 = .ok (.if_icmp .ne 12, 3) := by decide +kernel
theorem dX11_leastOf_66 : decode cX11_leastOf 66 = .ok (.aload_n 0, 1) := by decide +kernel
theorem dX11_leastOf_67 : decode cX11_leastOf 67 = .ok (.bipush 8, 2) := by decide +kernel
theorem dX11_leastOf_69 : decode cX11_leastOf 69 = .ok (.invokevirtual 336, 3) := by decide +kernel
theorem dX11_leastOf_72 : decode cX11_leastOf 72 = .ok (.goto 4, 3) := by decide +kernel
theorem dX11_leastOf_75 : decode cX11_leastOf 75 = .ok (.iload_n 2, 1) := by decide +kernel
theorem dX11_leastOf_76 : decode cX11_leastOf 76 = .ok (.ireturn, 1) := by decide +kernel
theorem dX11_soonest_0 : decode cX11_soonest 0 = .ok (.aload_n 0, 1) := by decide +kernel
theorem dX11_soonest_1 : decode cX11_soonest 1 = .ok (.iconst 0, 1) := by decide +kernel
theorem dX11_soonest_2 : decode cX11_soonest 2 = .ok (.putfield 94, 3) := by decide +kernel
theorem dX11_soonest_5 : decode cX11_soonest 5 = .ok (.aload_n 0, 1) := by decide +kernel
theorem dX11_soonest_6 : decode cX11_soonest 6 = .ok (.iconst 0, 1) := by decide +kernel
theorem dX11_soonest_7 : decode cX11_soonest 7 = .ok (.putfield 97, 3) := by decide +kernel
theorem dX11_soonest_10 : decode cX11_soonest 10 = .ok (.aload_n 0, 1) := by decide +kernel
theorem dX11_soonest_11 : decode cX11_soonest 11 = .ok (.iload_n 1, 1) := by decide +kernel
theorem dX11_soonest_12 : decode cX11_soonest 12 = .ok (.iload_n 2, 1) := by decide +kernel
theorem dX11_soonest_13 : decode cX11_soonest 13 = .ok (.invokevirtual 429, 3) := by decide +kernel
theorem dX11_soonest_16 : decode cX11_soonest 16 = .ok (.ifCond .eq 11, 3) := by decide +kernel
theorem dX11_soonest_19 : decode cX11_soonest 19 = .ok (.aload_n 0, 1) := by decide +kernel
theorem dX11_soonest_20 : decode cX11_soonest 20 = .ok (.iconst 0, 1) := by decide +kernel
theorem dX11_soonest_21 : decode cX11_soonest 21 = .ok (.invokevirtual 432, 3) := by decide +kernel
theorem dX11_soonest_24 : decode cX11_soonest 24 = .ok (.goto 4, 3) := by decide +kernel
theorem dX11_soonest_27 : decode cX11_soonest 27 = .ok (.iconst (-1), 1) := by decide +kernel
theorem dX11_soonest_28 : decode cX11_soonest 28 = .ok (.ireturn, 1) := by decide +kernel
theorem dX11_cheapest_0 : decode cX11_cheapest 0 = .ok (.aload_n 0, 1) := by decide +kernel
theorem dX11_cheapest_1 : decode cX11_cheapest 1 = .ok (.iconst 0, 1) := by decide +kernel
theorem dX11_cheapest_2 : decode cX11_cheapest 2 = .ok (.putfield 94, 3) := by decide +kernel
theorem dX11_cheapest_5 : decode cX11_cheapest 5 = .ok (.aload_n 0, 1) := by decide +kernel
theorem dX11_cheapest_6 : decode cX11_cheapest 6 = .ok (.iconst 0, 1) := by decide +kernel
theorem dX11_cheapest_7 : decode cX11_cheapest 7 = .ok (.putfield 97, 3) := by decide +kernel
theorem dX11_cheapest_10 : decode cX11_cheapest 10 = .ok (.aload_n 0, 1) := by decide +kernel
theorem dX11_cheapest_11 : decode cX11_cheapest 11 = .ok (.iload_n 1, 1) := by decide +kernel
theorem dX11_cheapest_12 : decode cX11_cheapest 12 = .ok (.iload_n 2, 1) := by decide +kernel
theorem dX11_cheapest_13 : decode cX11_cheapest 13 = .ok (.invokevirtual 429, 3) := by decide +kernel
theorem dX11_cheapest_16 : decode cX11_cheapest 16 = .ok (.ifCond .eq 11, 3) := by decide +kernel
theorem dX11_cheapest_19 : decode cX11_cheapest 19 = .ok (.aload_n 0, 1) := by decide +kernel
theorem dX11_cheapest_20 : decode cX11_cheapest 20 = .ok (.iconst 1, 1) := by decide +kernel
theorem dX11_cheapest_21 : decode cX11_cheapest 21 = .ok (.invokevirtual 432, 3) := by decide +kernel
theorem dX11_cheapest_24 : decode cX11_cheapest 24 = .ok (.goto 4, 3) := by decide +kernel
theorem dX11_cheapest_27 : decode cX11_cheapest 27 = .ok (.iconst (-1), 1) := by decide +kernel
theorem dX11_cheapest_28 : decode cX11_cheapest 28 = .ok (.ireturn, 1) := by decide +kernel
theorem dX11_ways_0 : decode cX11_ways 0 = .ok (.aload_n 0, 1) := by decide +kernel
theorem dX11_ways_1 : decode cX11_ways 1 = .ok (.iconst 0, 1) := by decide +kernel
theorem dX11_ways_2 : decode cX11_ways 2 = .ok (.putfield 94, 3) := by decide +kernel
theorem dX11_ways_5 : decode cX11_ways 5 = .ok (.aload_n 0, 1) := by decide +kernel
theorem dX11_ways_6 : decode cX11_ways 6 = .ok (.iconst 0, 1) := by decide +kernel
theorem dX11_ways_7 : decode cX11_ways 7 = .ok (.putfield 97, 3) := by decide +kernel
theorem dX11_ways_10 : decode cX11_ways 10 = .ok (.aload_n 0, 1) := by decide +kernel
theorem dX11_ways_11 : decode cX11_ways 11 = .ok (.iload_n 1, 1) := by decide +kernel
theorem dX11_ways_12 : decode cX11_ways 12 = .ok (.iload_n 2, 1) := by decide +kernel
theorem dX11_ways_13 : decode cX11_ways 13 = .ok (.invokevirtual 429, 3) := by decide +kernel
theorem dX11_ways_16 : decode cX11_ways 16 = .ok (.ifCond .eq 11, 3) := by decide +kernel
theorem dX11_ways_19 : decode cX11_ways 19 = .ok (.aload_n 0, 1) := by decide +kernel
theorem dX11_ways_20 : decode cX11_ways 20 = .ok (.iload_n 2, 1) := by decide +kernel
theorem dX11_ways_21 : decode cX11_ways 21 = .ok (.invokevirtual 436, 3) := by decide +kernel
theorem dX11_ways_24 : decode cX11_ways 24 = .ok (.goto 6, 3) := by decide +kernel
theorem dX11_ways_27 : decode cX11_ways 27 = .ok (.ldc2_w 125, 3) := by decide +kernel
theorem dX11_ways_30 : decode cX11_ways 30 = .ok (.lreturn, 1) := by decide +kernel
theorem dX11_first_0 : decode cX11_first 0 = .ok (.aload_n 0, 1) := by decide +kernel
theorem dX11_first_1 : decode cX11_first 1 = .ok (.iconst 0, 1) := by decide +kernel
theorem dX11_first_2 : decode cX11_first 2 = .ok (.putfield 94, 3) := by decide +kernel
theorem dX11_first_5 : decode cX11_first 5 = .ok (.aload_n 0, 1) := by decide +kernel
theorem dX11_first_6 : decode cX11_first 6 = .ok (.iconst 0, 1) := by decide +kernel
theorem dX11_first_7 : decode cX11_first 7 = .ok (.putfield 97, 3) := by decide +kernel
theorem dX11_first_10 : decode cX11_first 10 = .ok (.aload_n 0, 1) := by decide +kernel
theorem dX11_first_11 : decode cX11_first 11 = .ok (.iload_n 1, 1) := by decide +kernel
theorem dX11_first_12 : decode cX11_first 12 = .ok (.iload_n 2, 1) := by decide +kernel
theorem dX11_first_13 : decode cX11_first 13 = .ok (.invokevirtual 429, 3) := by decide +kernel
theorem dX11_first_16 : decode cX11_first 16 = .ok (.ifCond .ne 5, 3) := by decide +kernel
theorem dX11_first_19 : decode cX11_first 19 = .ok (.iconst (-1), 1) := by decide +kernel
theorem dX11_first_20 : decode cX11_first 20 = .ok (.ireturn, 1) := by decide +kernel
theorem dX11_first_21 : decode cX11_first 21 = .ok (.aload_n 0, 1) := by decide +kernel
theorem dX11_first_22 : decode cX11_first 22 = .ok (.iload_n 2, 1) := by decide +kernel
theorem dX11_first_23 : decode cX11_first 23 = .ok (.invokevirtual 436, 3) := by decide +kernel
theorem dX11_first_26 : decode cX11_first 26 = .ok (.lconst 0, 1) := by decide +kernel
theorem dX11_first_27 : decode cX11_first 27 = .ok (.lcmp, 1) := by decide +kernel
theorem dX11_first_28 : decode cX11_first 28 = .ok (.ifCond .ne 10, 3) := by decide +kernel
theorem dX11_first_31 : decode cX11_first 31 = .ok (.aload_n 0, 1) := by decide +kernel
theorem dX11_first_32 : decode cX11_first 32 = .ok (.bipush 8, 2) := by decide +kernel
theorem dX11_first_34 : decode cX11_first 34 = .ok (.invokevirtual 336, 3) := by decide +kernel
theorem dX11_first_37 : decode cX11_first 37 = .ok (.ireturn, 1) := by decide +kernel
theorem dX11_first_38 : decode cX11_first 38 = .ok (.iconst 1, 1) := by decide +kernel
theorem dX11_first_39 : decode cX11_first 39 = .ok (.aload_n 0, 1) := by decide +kernel
theorem dX11_first_40 : decode cX11_first 40 = .ok (.getfield 35, 3) := by decide +kernel
theorem dX11_first_43 : decode cX11_first 43 = .ok (.iconst 1, 1) := by decide +kernel
theorem dX11_first_44 : decode cX11_first 44 = .ok (.iaload, 1) := by decide +kernel
theorem dX11_first_45 : decode cX11_first 45 = .ok (.ishl, 1) := by decide +kernel
theorem dX11_first_46 : decode cX11_first 46 = .ok (.iconst 1, 1) := by decide +kernel
theorem dX11_first_47 : decode cX11_first 47 = .ok (.isub, 1) := by decide +kernel
theorem dX11_first_48 : decode cX11_first 48 = .ok (.istore_n 3, 1) := by decide +kernel
theorem dX11_first_49 : decode cX11_first 49 = .ok (.iload_n 3, 1) := by decide +kernel
theorem dX11_first_50 : decode cX11_first 50 = .ok (.ifCond .lt 111, 3) := by decide +kernel
theorem dX11_first_53 : decode cX11_first 53 = .ok (.iload_n 3, 1) := by decide +kernel
theorem dX11_first_54 : decode cX11_first 54 = .ok (.invokestatic 381, 3) := by decide +kernel
theorem dX11_first_57 : decode cX11_first 57 = .ok (.istore 4, 2) := by decide +kernel
theorem dX11_first_59 : decode cX11_first 59 = .ok (.aload_n 0, 1) := by decide +kernel
theorem dX11_first_60 : decode cX11_first 60 = .ok (.getfield 59, 3) := by decide +kernel
theorem dX11_first_63 : decode cX11_first 63 = .ok (.iload_n 3, 1) := by decide +kernel
theorem dX11_first_64 : decode cX11_first 64 = .ok (.iload 4, 2) := by decide +kernel
theorem dX11_first_66 : decode cX11_first 66 = .ok (.iload_n 2, 1) := by decide +kernel
theorem dX11_first_67 : decode cX11_first 67 = .ok (.if_icmp .ne 7, 3) := by decide +kernel
theorem dX11_first_70 : decode cX11_first 70 = .ok (.iconst 1, 1) := by decide +kernel
theorem dX11_first_71 : decode cX11_first 71 = .ok (.goto 4, 3) := by decide +kernel
theorem dX11_first_74 : decode cX11_first 74 = .ok (.iconst 0, 1) := by decide +kernel
theorem dX11_first_75 : decode cX11_first 75 = .ok (.bastore, 1) := by decide +kernel
theorem dX11_first_76 : decode cX11_first 76 = .ok (.iload 4, 2) := by decide +kernel
theorem dX11_first_78 : decode cX11_first 78 = .ok (.iload_n 2, 1) := by decide +kernel
theorem dX11_first_79 : decode cX11_first 79 = .ok (.if_icmp .lt 6, 3) := by decide +kernel
theorem dX11_first_82 : decode cX11_first 82 = .ok (.goto 73, 3) := by decide +kernel
theorem dX11_first_85 : decode cX11_first 85 = .ok (.iconst 0, 1) := by decide +kernel
theorem dX11_first_86 : decode cX11_first 86 = .ok (.istore 5, 2) := by decide +kernel
theorem dX11_first_88 : decode cX11_first 88 = .ok (.iload 5, 2) := by decide +kernel
theorem dX11_first_90 : decode cX11_first 90 = .ok (.aload_n 0, 1) := by decide +kernel
theorem dX11_first_91 : decode cX11_first 91 = .ok (.getfield 35, 3) := by decide +kernel
theorem dX11_first_94 : decode cX11_first 94 = .ok (.iconst 1, 1) := by decide +kernel
theorem dX11_first_95 : decode cX11_first 95 = .ok (.iaload, 1) := by decide +kernel
theorem dX11_first_96 : decode cX11_first 96 = .ok (.if_icmp .ge 59, 3) := by decide +kernel
theorem dX11_first_99 : decode cX11_first 99 = .ok (.aload_n 0, 1) := by decide +kernel
theorem dX11_first_100 : decode cX11_first 100 = .ok (.iload_n 3, 1) := by decide +kernel
theorem dX11_first_101 : decode cX11_first 101 = .ok (.iload 5, 2) := by decide +kernel
theorem dX11_first_103 : decode cX11_first 103 = .ok (.invokevirtual 354, 3) := by decide +kernel
theorem dX11_first_106 : decode cX11_first 106 = .ok (.ifCond .eq 43, 3) := by decide +kernel
theorem dX11_first_109 : decode cX11_first 109 = .ok (.aload_n 0, 1) := by decide +kernel
theorem dX11_first_110 : decode cX11_first 110 = .ok (.getfield 35, 3) := by decide +kernel
theorem dX11_first_113 : decode cX11_first 113 = .ok (.iconst 4, 1) := by decide +kernel
theorem dX11_first_114 : decode cX11_first 114 = .ok (.iload 5, 2) := by decide +kernel
theorem dX11_first_116 : decode cX11_first 116 = .ok (.iadd, 1) := by decide +kernel
theorem dX11_first_117 : decode cX11_first 117 = .ok (.iaload, 1) := by decide +kernel
theorem dX11_first_118 : decode cX11_first 118 = .ok (.aload_n 0, 1) := by decide +kernel
theorem dX11_first_119 : decode cX11_first 119 = .ok (.getfield 44, 3) := by decide +kernel
theorem dX11_first_122 : decode cX11_first 122 = .ok (.iload 4, 2) := by decide +kernel
theorem dX11_first_124 : decode cX11_first 124 = .ok (.iaload, 1) := by decide +kernel
theorem dX11_first_125 : decode cX11_first 125 = .ok (.if_icmp .ne 24, 3) := by decide +kernel
theorem dX11_first_128 : decode cX11_first 128 = .ok (.aload_n 0, 1) := by decide +kernel
theorem dX11_first_129 : decode cX11_first 129 = .ok (.getfield 59, 3) := by decide +kernel
theorem dX11_first_132 : decode cX11_first 132 = .ok (.iload_n 3, 1) := by decide +kernel
theorem dX11_first_133 : decode cX11_first 133 = .ok (.iconst 1, 1) := by decide +kernel
theorem dX11_first_134 : decode cX11_first 134 = .ok (.iload 5, 2) := by decide +kernel
theorem dX11_first_136 : decode cX11_first 136 = .ok (.ishl, 1) := by decide +kernel
theorem dX11_first_137 : decode cX11_first 137 = .ok (.ior, 1) := by decide +kernel
theorem dX11_first_138 : decode cX11_first 138 = .ok (.baload, 1) := by decide +kernel
theorem dX11_first_139 : decode cX11_first 139 = .ok (.ifCond .eq 10, 3) := by decide +kernel
theorem dX11_first_142 : decode cX11_first 142 = .ok (.aload_n 0, 1) := by decide +kernel
theorem dX11_first_143 : decode cX11_first 143 = .ok (.getfield 59, 3) := by decide +kernel
theorem dX11_first_146 : decode cX11_first 146 = .ok (.iload_n 3, 1) := by decide +kernel
theorem dX11_first_147 : decode cX11_first 147 = .ok (.iconst 1, 1) := by decide +kernel
theorem dX11_first_148 : decode cX11_first 148 = .ok (.bastore, 1) := by decide +kernel
theorem dX11_first_149 : decode cX11_first 149 = .ok (.iinc 5 1, 3) := by decide +kernel
theorem dX11_first_152 : decode cX11_first 152 = .ok (.goto (-64), 3) := by decide +kernel
theorem dX11_first_155 : decode cX11_first 155 = .ok (.iinc 3 (-1), 3) := by decide +kernel
theorem dX11_first_158 : decode cX11_first 158 = .ok (.goto (-109), 3) := by decide +kernel
theorem dX11_first_161 : decode cX11_first 161 = .ok (.iconst 0, 1) := by decide +kernel
theorem dX11_first_162 : decode cX11_first 162 = .ok (.istore_n 3, 1) := by decide +kernel
theorem dX11_first_163 : decode cX11_first 163 = .ok (.iconst 0, 1) := by decide +kernel
theorem dX11_first_164 : decode cX11_first 164 = .ok (.istore 4, 2) := by decide +kernel
theorem dX11_first_166 : decode cX11_first 166 = .ok (.iload 4, 2) := by decide +kernel
theorem dX11_first_168 : decode cX11_first 168 = .ok (.iload_n 2, 1) := by decide +kernel
theorem dX11_first_169 : decode cX11_first 169 = .ok (.if_icmp .ge 77, 3) := by decide +kernel
theorem dX11_first_172 : decode cX11_first 172 = .ok (.iconst 0, 1) := by decide +kernel
theorem dX11_first_173 : decode cX11_first 173 = .ok (.istore 5, 2) := by decide +kernel
theorem dX11_first_175 : decode cX11_first 175 = .ok (.aload_n 0, 1) := by decide +kernel
theorem dX11_first_176 : decode cX11_first 176 = .ok (.iload_n 3, 1) := by decide +kernel
theorem dX11_first_177 : decode cX11_first 177 = .ok (.iload 5, 2) := by decide +kernel
theorem dX11_first_179 : decode cX11_first 179 = .ok (.invokevirtual 354, 3) := by decide +kernel
theorem dX11_first_182 : decode cX11_first 182 = .ok (.ifCond .eq 36, 3) := by decide +kernel
theorem dX11_first_185 : decode cX11_first 185 = .ok (.aload_n 0, 1) := by decide +kernel
theorem dX11_first_186 : decode cX11_first 186 = .ok (.getfield 35, 3) := by decide +kernel
theorem dX11_first_189 : decode cX11_first 189 = .ok (.iconst 4, 1) := by decide +kernel
theorem dX11_first_190 : decode cX11_first 190 = .ok (.iload 5, 2) := by decide +kernel
theorem dX11_first_192 : decode cX11_first 192 = .ok (.iadd, 1) := by decide +kernel
theorem dX11_first_193 : decode cX11_first 193 = .ok (.iaload, 1) := by decide +kernel
theorem dX11_first_194 : decode cX11_first 194 = .ok (.aload_n 0, 1) := by decide +kernel
theorem dX11_first_195 : decode cX11_first 195 = .ok (.getfield 44, 3) := by decide +kernel
theorem dX11_first_198 : decode cX11_first 198 = .ok (.iload 4, 2) := by decide +kernel
theorem dX11_first_200 : decode cX11_first 200 = .ok (.iaload, 1) := by decide +kernel
theorem dX11_first_201 : decode cX11_first 201 = .ok (.if_icmp .ne 17, 3) := by decide +kernel
theorem dX11_first_204 : decode cX11_first 204 = .ok (.aload_n 0, 1) := by decide +kernel
theorem dX11_first_205 : decode cX11_first 205 = .ok (.getfield 59, 3) := by decide +kernel
theorem dX11_first_208 : decode cX11_first 208 = .ok (.iload_n 3, 1) := by decide +kernel
theorem dX11_first_209 : decode cX11_first 209 = .ok (.iconst 1, 1) := by decide +kernel
theorem dX11_first_210 : decode cX11_first 210 = .ok (.iload 5, 2) := by decide +kernel
theorem dX11_first_212 : decode cX11_first 212 = .ok (.ishl, 1) := by decide +kernel
theorem dX11_first_213 : decode cX11_first 213 = .ok (.ior, 1) := by decide +kernel
theorem dX11_first_214 : decode cX11_first 214 = .ok (.baload, 1) := by decide +kernel
theorem dX11_first_215 : decode cX11_first 215 = .ok (.ifCond .ne 9, 3) := by decide +kernel
theorem dX11_first_218 : decode cX11_first 218 = .ok (.iinc 5 1, 3) := by decide +kernel
theorem dX11_first_221 : decode cX11_first 221 = .ok (.goto (-46), 3) := by decide +kernel
theorem dX11_first_224 : decode cX11_first 224 = .ok (.aload_n 0, 1) := by decide +kernel
theorem dX11_first_225 : decode cX11_first 225 = .ok (.getfield 56, 3) := by decide +kernel
theorem dX11_first_228 : decode cX11_first 228 = .ok (.iload 4, 2) := by decide +kernel
theorem dX11_first_230 : decode cX11_first 230 = .ok (.iload 5, 2) := by decide +kernel
theorem dX11_first_232 : decode cX11_first 232 = .ok (.iastore, 1) := by decide +kernel
theorem dX11_first_233 : decode cX11_first 233 = .ok (.iload_n 3, 1) := by decide +kernel
theorem dX11_first_234 : decode cX11_first 234 = .ok (.iconst 1, 1) := by decide +kernel
theorem dX11_first_235 : decode cX11_first 235 = .ok (.iload 5, 2) := by decide +kernel
theorem dX11_first_237 : decode cX11_first 237 = .ok (.ishl, 1) := by decide +kernel
theorem dX11_first_238 : decode cX11_first 238 = .ok (.ior, 1) := by decide +kernel
theorem dX11_first_239 : decode cX11_first 239 = .ok (.istore_n 3, 1) := by decide +kernel
theorem dX11_first_240 : decode cX11_first 240 = .ok (.iinc 4 1, 3) := by decide +kernel
theorem dX11_first_243 : decode cX11_first 243 = .ok (.goto (-77), 3) := by decide +kernel
theorem dX11_first_246 : decode cX11_first 246 = .ok (.aload_n 0, 1) := by decide +kernel
theorem dX11_first_247 : decode cX11_first 247 = .ok (.iload_n 2, 1) := by decide +kernel
theorem dX11_first_248 : decode cX11_first 248 = .ok (.putfield 440, 3) := by decide +kernel
theorem dX11_first_251 : decode cX11_first 251 = .ok (.iload_n 2, 1) := by decide +kernel
theorem dX11_first_252 : decode cX11_first 252 = .ok (.ireturn, 1) := by decide +kernel
theorem dX11_firstAt_0 : decode cX11_firstAt 0 = .ok (.aload_n 0, 1) := by decide +kernel
theorem dX11_firstAt_1 : decode cX11_firstAt 1 = .ok (.iconst 0, 1) := by decide +kernel
theorem dX11_firstAt_2 : decode cX11_firstAt 2 = .ok (.putfield 94, 3) := by decide +kernel
theorem dX11_firstAt_5 : decode cX11_firstAt 5 = .ok (.aload_n 0, 1) := by decide +kernel
theorem dX11_firstAt_6 : decode cX11_firstAt 6 = .ok (.iconst 0, 1) := by decide +kernel
theorem dX11_firstAt_7 : decode cX11_firstAt 7 = .ok (.putfield 97, 3) := by decide +kernel
theorem dX11_firstAt_10 : decode cX11_firstAt 10 = .ok (.iload_n 1, 1) := by decide +kernel
theorem dX11_firstAt_11 : decode cX11_firstAt 11 = .ok (.i2l, 1) := by decide +kernel
theorem dX11_firstAt_12 : decode cX11_firstAt 12 = .ok (.lconst 0, 1) := by decide +kernel
theorem dX11_firstAt_13 : decode cX11_firstAt 13 = .ok (.aload_n 0, 1) := by decide +kernel
theorem dX11_firstAt_14 : decode cX11_firstAt 14 = .ok (.getfield 440, 3) := by decide +kernel
theorem dX11_firstAt_17 : decode cX11_firstAt 17 = .ok (.iconst 1, 1) := by decide +kernel
theorem dX11_firstAt_18 : decode cX11_firstAt 18 = .ok (.isub, 1) := by decide +kernel
theorem dX11_firstAt_19 : decode cX11_firstAt 19 = .ok (.i2l, 1) := by decide +kernel
theorem dX11_firstAt_20 : decode cX11_firstAt 20 = .ok (.invokestatic 129, 3) := by decide +kernel
theorem dX11_firstAt_23 : decode cX11_firstAt 23 = .ok (.ifCond .eq 12, 3) := by decide +kernel
theorem dX11_firstAt_26 : decode cX11_firstAt 26 = .ok (.aload_n 0, 1) := by decide +kernel
theorem dX11_firstAt_27 : decode cX11_firstAt 27 = .ok (.getfield 56, 3) := by decide +kernel
theorem dX11_firstAt_30 : decode cX11_firstAt 30 = .ok (.iload_n 1, 1) := by decide +kernel
theorem dX11_firstAt_31 : decode cX11_firstAt 31 = .ok (.iaload, 1) := by decide +kernel
theorem dX11_firstAt_32 : decode cX11_firstAt 32 = .ok (.goto 9, 3) := by decide +kernel
theorem dX11_firstAt_35 : decode cX11_firstAt 35 = .ok (.aload_n 0, 1) := by decide +kernel
theorem dX11_firstAt_36 : decode cX11_firstAt 36 = .ok (.bipush 8, 2) := by decide +kernel
theorem dX11_firstAt_38 : decode cX11_firstAt 38 = .ok (.invokevirtual 336, 3) := by decide +kernel
theorem dX11_firstAt_41 : decode cX11_firstAt 41 = .ok (.ireturn, 1) := by decide +kernel
theorem dX11_goes_0 : decode cX11_goes 0 = .ok (.aload_n 0, 1) := by decide +kernel
theorem dX11_goes_1 : decode cX11_goes 1 = .ok (.iconst 0, 1) := by decide +kernel
theorem dX11_goes_2 : decode cX11_goes 2 = .ok (.putfield 94, 3) := by decide +kernel
theorem dX11_goes_5 : decode cX11_goes 5 = .ok (.aload_n 0, 1) := by decide +kernel
theorem dX11_goes_6 : decode cX11_goes 6 = .ok (.iconst 0, 1) := by decide +kernel
theorem dX11_goes_7 : decode cX11_goes 7 = .ok (.putfield 97, 3) := by decide +kernel
theorem dX11_goes_10 : decode cX11_goes 10 = .ok (.aload_n 0, 1) := by decide +kernel
theorem dX11_goes_11 : decode cX11_goes 11 = .ok (.iload_n 1, 1) := by decide +kernel
theorem dX11_goes_12 : decode cX11_goes 12 = .ok (.iload_n 2, 1) := by decide +kernel
theorem dX11_goes_13 : decode cX11_goes 13 = .ok (.invokevirtual 429, 3) := by decide +kernel
theorem dX11_goes_16 : decode cX11_goes 16 = .ok (.ifCond .ne 5, 3) := by decide +kernel
theorem dX11_goes_19 : decode cX11_goes 19 = .ok (.iconst (-1), 1) := by decide +kernel
theorem dX11_goes_20 : decode cX11_goes 20 = .ok (.ireturn, 1) := by decide +kernel
theorem dX11_goes_21 : decode cX11_goes 21 = .ok (.iload_n 2, 1) := by decide +kernel
theorem dX11_goes_22 : decode cX11_goes 22 = .ok (.istore_n 3, 1) := by decide +kernel
theorem dX11_goes_23 : decode cX11_goes 23 = .ok (.aload_n 0, 1) := by decide +kernel
theorem dX11_goes_24 : decode cX11_goes 24 = .ok (.iload_n 3, 1) := by decide +kernel
theorem dX11_goes_25 : decode cX11_goes 25 = .ok (.invokevirtual 436, 3) := by decide +kernel
theorem dX11_goes_28 : decode cX11_goes 28 = .ok (.lconst 0, 1) := by decide +kernel
theorem dX11_goes_29 : decode cX11_goes 29 = .ok (.lcmp, 1) := by decide +kernel
theorem dX11_goes_30 : decode cX11_goes 30 = .ok (.ifCond .ne 9, 3) := by decide +kernel
theorem dX11_goes_33 : decode cX11_goes 33 = .ok (.iinc 3 (-1), 3) := by decide +kernel
theorem dX11_goes_36 : decode cX11_goes 36 = .ok (.goto (-13), 3) := by decide +kernel
theorem dX11_goes_39 : decode cX11_goes 39 = .ok (.iload_n 3, 1) := by decide +kernel
theorem dX11_goes_40 : decode cX11_goes 40 = .ok (.ireturn, 1) := by decide +kernel
theorem dX11_lives_0 : decode cX11_lives 0 = .ok (.aload_n 0, 1) := by decide +kernel
theorem dX11_lives_1 : decode cX11_lives 1 = .ok (.iconst 0, 1) := by decide +kernel
theorem dX11_lives_2 : decode cX11_lives 2 = .ok (.putfield 94, 3) := by decide +kernel
theorem dX11_lives_5 : decode cX11_lives 5 = .ok (.aload_n 0, 1) := by decide +kernel
theorem dX11_lives_6 : decode cX11_lives 6 = .ok (.iconst 0, 1) := by decide +kernel
theorem dX11_lives_7 : decode cX11_lives 7 = .ok (.putfield 97, 3) := by decide +kernel
theorem dX11_lives_10 : decode cX11_lives 10 = .ok (.aload_n 0, 1) := by decide +kernel
theorem dX11_lives_11 : decode cX11_lives 11 = .ok (.iload_n 1, 1) := by decide +kernel
theorem dX11_lives_12 : decode cX11_lives 12 = .ok (.invokevirtual 342, 3) := by decide +kernel
theorem dX11_lives_15 : decode cX11_lives 15 = .ok (.ifCond .ne 10, 3) := by decide +kernel
theorem dX11_lives_18 : decode cX11_lives 18 = .ok (.aload_n 0, 1) := by decide +kernel
theorem dX11_lives_19 : decode cX11_lives 19 = .ok (.iconst 2, 1) := by decide +kernel
theorem dX11_lives_20 : decode cX11_lives 20 = .ok (.invokevirtual 336, 3) := by decide +kernel
theorem dX11_lives_23 : decode cX11_lives 23 = .ok (.i2l, 1) := by decide +kernel
theorem dX11_lives_24 : decode cX11_lives 24 = .ok (.lreturn, 1) := by decide +kernel
theorem dX11_lives_25 : decode cX11_lives 25 = .ok (.aload_n 0, 1) := by decide +kernel
theorem dX11_lives_26 : decode cX11_lives 26 = .ok (.iload_n 1, 1) := by decide +kernel
theorem dX11_lives_27 : decode cX11_lives 27 = .ok (.iconst 0, 1) := by decide +kernel
theorem dX11_lives_28 : decode cX11_lives 28 = .ok (.invokevirtual 393, 3) := by decide +kernel
theorem dX11_lives_31 : decode cX11_lives 31 = .ok (.aload_n 0, 1) := by decide +kernel
theorem dX11_lives_32 : decode cX11_lives 32 = .ok (.invokevirtual 426, 3) := by decide +kernel
theorem dX11_lives_35 : decode cX11_lives 35 = .ok (.aload_n 0, 1) := by decide +kernel
theorem dX11_lives_36 : decode cX11_lives 36 = .ok (.aload_n 0, 1) := by decide +kernel
theorem dX11_lives_37 : decode cX11_lives 37 = .ok (.getfield 384, 3) := by decide +kernel
theorem dX11_lives_40 : decode cX11_lives 40 = .ok (.invokevirtual 436, 3) := by decide +kernel
theorem dX11_lives_43 : decode cX11_lives 43 = .ok (.lreturn, 1) := by decide +kernel
theorem dX11_fillOrders_0 : decode cX11_fillOrders 0 = .ok (.iconst 0, 1) := by decide +kernel
theorem dX11_fillOrders_1 : decode cX11_fillOrders 1 = .ok (.istore_n 1, 1) := by decide +kernel
theorem dX11_fillOrders_2 : decode cX11_fillOrders 2 = .ok (.iload_n 1, 1) := by decide +kernel
theorem dX11_fillOrders_3 : decode cX11_fillOrders 3 = .ok (.iconst 1, 1) := by decide +kernel
theorem dX11_fillOrders_4 : decode cX11_fillOrders 4 = .ok (.aload_n 0, 1) := by decide +kernel
theorem dX11_fillOrders_5 : decode cX11_fillOrders 5 = .ok (.getfield 35, 3) := by decide +kernel
theorem dX11_fillOrders_8 : decode cX11_fillOrders 8 = .ok (.iconst 1, 1) := by decide +kernel
theorem dX11_fillOrders_9 : decode cX11_fillOrders 9 = .ok (.iaload, 1) := by decide +kernel
theorem dX11_fillOrders_10 : decode cX11_fillOrders 10 = .ok (.ishl, 1) := by decide +kernel
theorem dX11_fillOrders_11 : decode cX11_fillOrders 11 = .ok (.if_icmp .ge 79, 3) := by decide +kernel
theorem dX11_fillOrders_14 : decode cX11_fillOrders 14 = .ok (.aload_n 0, 1) := by decide +kernel
theorem dX11_fillOrders_15 : decode cX11_fillOrders 15 = .ok (.getfield 63, 3) := by decide +kernel
theorem dX11_fillOrders_18 : decode cX11_fillOrders 18 = .ok (.iload_n 1, 1) := by decide +kernel
theorem dX11_fillOrders_19 : decode cX11_fillOrders 19 = .ok (.iload_n 1, 1) := by decide +kernel
theorem dX11_fillOrders_20 : decode cX11_fillOrders 20 = .ok (.ifCond .ne 7, 3) := by decide +kernel
theorem dX11_fillOrders_23 : decode cX11_fillOrders 23 = .ok (.lconst 1, 1) := by decide +kernel
theorem dX11_fillOrders_24 : decode cX11_fillOrders 24 = .ok (.goto 4, 3) := by decide +kernel
theorem dX11_fillOrders_27 : decode cX11_fillOrders 27 = .ok (.lconst 0, 1) := by decide +kernel
theorem dX11_fillOrders_28 : decode cX11_fillOrders 28 = .ok (.lastore, 1) := by decide +kernel
theorem dX11_fillOrders_29 : decode cX11_fillOrders 29 = .ok (.iconst 0, 1) := by decide +kernel
theorem dX11_fillOrders_30 : decode cX11_fillOrders 30 = .ok (.istore_n 2, 1) := by decide +kernel
theorem dX11_fillOrders_31 : decode cX11_fillOrders 31 = .ok (.iload_n 2, 1) := by decide +kernel
theorem dX11_fillOrders_32 : decode cX11_fillOrders 32 = .ok (.aload_n 0, 1) := by decide +kernel
theorem dX11_fillOrders_33 : decode cX11_fillOrders 33 = .ok (.getfield 35, 3) := by decide +kernel
theorem dX11_fillOrders_36 : decode cX11_fillOrders 36 = .ok (.iconst 1, 1) := by decide +kernel
theorem dX11_fillOrders_37 : decode cX11_fillOrders 37 = .ok (.iaload, 1) := by decide +kernel
theorem dX11_fillOrders_38 : decode cX11_fillOrders 38 = .ok (.if_icmp .ge 46, 3) := by decide +kernel
theorem dX11_fillOrders_41 : decode cX11_fillOrders 41 = .ok (.iload_n 1, 1) := by decide +kernel
theorem dX11_fillOrders_42 : decode cX11_fillOrders 42 = .ok (.iconst 1, 1) := by decide +kernel
theorem dX11_fillOrders_43 : decode cX11_fillOrders 43 = .ok (.iload_n 2, 1) := by decide +kernel
theorem dX11_fillOrders_44 : decode cX11_fillOrders 44 = .ok (.ishl, 1) := by decide +kernel
theorem dX11_fillOrders_45 : decode cX11_fillOrders 45 = .ok (.iconst (-1), 1) := by decide +kernel
theorem dX11_fillOrders_46 : decode cX11_fillOrders 46 = .ok (.ixor, 1) := by decide +kernel
theorem dX11_fillOrders_47 : decode cX11_fillOrders 47 = .ok (.iand, 1) := by decide +kernel
theorem dX11_fillOrders_48 : decode cX11_fillOrders 48 = .ok (.istore_n 3, 1) := by decide +kernel
theorem dX11_fillOrders_49 : decode cX11_fillOrders 49 = .ok (.iload_n 3, 1) := by decide +kernel
theorem dX11_fillOrders_50 : decode cX11_fillOrders 50 = .ok (.iload_n 1, 1) := by decide +kernel
theorem dX11_fillOrders_51 : decode cX11_fillOrders 51 = .ok (.if_icmp .eq 27, 3) := by decide +kernel
theorem dX11_fillOrders_54 : decode cX11_fillOrders 54 = .ok (.aload_n 0, 1) := by decide +kernel
theorem dX11_fillOrders_55 : decode cX11_fillOrders 55 = .ok (.iload_n 3, 1) := by decide +kernel
theorem dX11_fillOrders_56 : decode cX11_fillOrders 56 = .ok (.iload_n 2, 1) := by decide +kernel
theorem dX11_fillOrders_57 : decode cX11_fillOrders 57 = .ok (.invokevirtual 354, 3) := by decide +kernel
theorem dX11_fillOrders_60 : decode cX11_fillOrders 60 = .ok (.ifCond .eq 18, 3) := by decide +kernel
theorem dX11_fillOrders_63 : decode cX11_fillOrders 63 = .ok (.aload_n 0, 1) := by decide +kernel
theorem dX11_fillOrders_64 : decode cX11_fillOrders 64 = .ok (.getfield 63, 3) := by decide +kernel
theorem dX11_fillOrders_67 : decode cX11_fillOrders 67 = .ok (.iload_n 1, 1) := by decide +kernel
theorem dX11_fillOrders_68 : decode cX11_fillOrders 68 = .ok (.dup2, 1) := by decide +kernel
theorem dX11_fillOrders_69 : decode cX11_fillOrders 69 = .ok (.laload, 1) := by decide +kernel
theorem dX11_fillOrders_70 : decode cX11_fillOrders 70 = .ok (.aload_n 0, 1) := by decide +kernel
theorem dX11_fillOrders_71 : decode cX11_fillOrders 71 = .ok (.getfield 63, 3) := by decide +kernel
theorem dX11_fillOrders_74 : decode cX11_fillOrders 74 = .ok (.iload_n 3, 1) := by decide +kernel
theorem dX11_fillOrders_75 : decode cX11_fillOrders 75 = .ok (.laload, 1) := by decide +kernel
theorem dX11_fillOrders_76 : decode cX11_fillOrders 76 = .ok (.ladd, 1) := by decide +kernel
theorem dX11_fillOrders_77 : decode cX11_fillOrders 77 = .ok (.lastore, 1) := by decide +kernel
theorem dX11_fillOrders_78 : decode cX11_fillOrders 78 = .ok (.iinc 2 1, 3) := by decide +kernel
theorem dX11_fillOrders_81 : decode cX11_fillOrders 81 = .ok (.goto (-50), 3) := by decide +kernel
theorem dX11_fillOrders_84 : decode cX11_fillOrders 84 = .ok (.iinc 1 1, 3) := by decide +kernel
theorem dX11_fillOrders_87 : decode cX11_fillOrders 87 = .ok (.goto (-85), 3) := by decide +kernel
theorem dX11_fillOrders_90 : decode cX11_fillOrders 90 = .ok (.return_, 1) := by decide +kernel
theorem dX11_orders_0 : decode cX11_orders 0 = .ok (.aload_n 0, 1) := by decide +kernel
theorem dX11_orders_1 : decode cX11_orders 1 = .ok (.iconst 0, 1) := by decide +kernel
theorem dX11_orders_2 : decode cX11_orders 2 = .ok (.putfield 94, 3) := by decide +kernel
theorem dX11_orders_5 : decode cX11_orders 5 = .ok (.aload_n 0, 1) := by decide +kernel
theorem dX11_orders_6 : decode cX11_orders 6 = .ok (.iconst 0, 1) := by decide +kernel
theorem dX11_orders_7 : decode cX11_orders 7 = .ok (.putfield 97, 3) := by decide +kernel
theorem dX11_orders_10 : decode cX11_orders 10 = .ok (.iload_n 1, 1) := by decide +kernel
theorem dX11_orders_11 : decode cX11_orders 11 = .ok (.i2l, 1) := by decide +kernel
theorem dX11_orders_12 : decode cX11_orders 12 = .ok (.lconst 0, 1) := by decide +kernel
theorem dX11_orders_13 : decode cX11_orders 13 = .ok (.ldc2_w 414, 3) := by decide +kernel
theorem dX11_orders_16 : decode cX11_orders 16 = .ok (.invokestatic 129, 3) := by decide +kernel
theorem dX11_orders_19 : decode cX11_orders 19 = .ok (.ifCond .ne 10, 3) := by decide +kernel
theorem dX11_orders_22 : decode cX11_orders 22 = .ok (.aload_n 0, 1) := by decide +kernel
theorem dX11_orders_23 : decode cX11_orders 23 = .ok (.iconst 5, 1) := by decide +kernel
theorem dX11_orders_24 : decode cX11_orders 24 = .ok (.invokevirtual 336, 3) := by decide +kernel
theorem dX11_orders_27 : decode cX11_orders 27 = .ok (.i2l, 1) := by decide +kernel
theorem dX11_orders_28 : decode cX11_orders 28 = .ok (.lreturn, 1) := by decide +kernel
theorem dX11_orders_29 : decode cX11_orders 29 = .ok (.aload_n 0, 1) := by decide +kernel
theorem dX11_orders_30 : decode cX11_orders 30 = .ok (.invokevirtual 443, 3) := by decide +kernel
theorem dX11_orders_33 : decode cX11_orders 33 = .ok (.lconst 0, 1) := by decide +kernel
theorem dX11_orders_34 : decode cX11_orders 34 = .ok (.lstore_n 2, 1) := by decide +kernel
theorem dX11_orders_35 : decode cX11_orders 35 = .ok (.iconst 0, 1) := by decide +kernel
theorem dX11_orders_36 : decode cX11_orders 36 = .ok (.istore 4, 2) := by decide +kernel
theorem dX11_orders_38 : decode cX11_orders 38 = .ok (.iload 4, 2) := by decide +kernel
theorem dX11_orders_40 : decode cX11_orders 40 = .ok (.iconst 1, 1) := by decide +kernel
theorem dX11_orders_41 : decode cX11_orders 41 = .ok (.aload_n 0, 1) := by decide +kernel
theorem dX11_orders_42 : decode cX11_orders 42 = .ok (.getfield 35, 3) := by decide +kernel
theorem dX11_orders_45 : decode cX11_orders 45 = .ok (.iconst 1, 1) := by decide +kernel
theorem dX11_orders_46 : decode cX11_orders 46 = .ok (.iaload, 1) := by decide +kernel
theorem dX11_orders_47 : decode cX11_orders 47 = .ok (.ishl, 1) := by decide +kernel
theorem dX11_orders_48 : decode cX11_orders 48 = .ok (.if_icmp .ge 32, 3) := by decide +kernel
theorem dX11_orders_51 : decode cX11_orders 51 = .ok (.lload_n 2, 1) := by decide +kernel
theorem dX11_orders_52 : decode cX11_orders 52 = .ok (.iload 4, 2) := by decide +kernel
theorem dX11_orders_54 : decode cX11_orders 54 = .ok (.invokestatic 381, 3) := by decide +kernel
theorem dX11_orders_57 : decode cX11_orders 57 = .ok (.iload_n 1, 1) := by decide +kernel
theorem dX11_orders_58 : decode cX11_orders 58 = .ok (.if_icmp .ne 13, 3) := by decide +kernel
theorem dX11_orders_61 : decode cX11_orders 61 = .ok (.aload_n 0, 1) := by decide +kernel
theorem dX11_orders_62 : decode cX11_orders 62 = .ok (.getfield 63, 3) := by decide +kernel
theorem dX11_orders_65 : decode cX11_orders 65 = .ok (.iload 4, 2) := by decide +kernel
theorem dX11_orders_67 : decode cX11_orders 67 = .ok (.laload, 1) := by decide +kernel
theorem dX11_orders_68 : decode cX11_orders 68 = .ok (.goto 4, 3) := by decide +kernel
theorem dX11_orders_71 : decode cX11_orders 71 = .ok (.lconst 0, 1) := by decide +kernel
theorem dX11_orders_72 : decode cX11_orders 72 = .ok (.ladd, 1) := by decide +kernel
theorem dX11_orders_73 : decode cX11_orders 73 = .ok (.lstore_n 2, 1) := by decide +kernel
theorem dX11_orders_74 : decode cX11_orders 74 = .ok (.iinc 4 1, 3) := by decide +kernel
theorem dX11_orders_77 : decode cX11_orders 77 = .ok (.goto (-39), 3) := by decide +kernel
theorem dX11_orders_80 : decode cX11_orders 80 = .ok (.lload_n 2, 1) := by decide +kernel
theorem dX11_orders_81 : decode cX11_orders 81 = .ok (.lreturn, 1) := by decide +kernel
theorem dX11_cellOf_0 : decode cX11_cellOf 0 = .ok (.bipush 18, 2) := by decide +kernel
theorem dX11_cellOf_2 : decode cX11_cellOf 2 = .ok (.iload_n 0, 1) := by decide +kernel
theorem dX11_cellOf_3 : decode cX11_cellOf 3 = .ok (.imul, 1) := by decide +kernel
theorem dX11_cellOf_4 : decode cX11_cellOf 4 = .ok (.bipush 9, 2) := by decide +kernel
theorem dX11_cellOf_6 : decode cX11_cellOf 6 = .ok (.iload_n 1, 1) := by decide +kernel
theorem dX11_cellOf_7 : decode cX11_cellOf 7 = .ok (.imul, 1) := by decide +kernel
theorem dX11_cellOf_8 : decode cX11_cellOf 8 = .ok (.iadd, 1) := by decide +kernel
theorem dX11_cellOf_9 : decode cX11_cellOf 9 = .ok (.iload_n 2, 1) := by decide +kernel
theorem dX11_cellOf_10 : decode cX11_cellOf 10 = .ok (.iadd, 1) := by decide +kernel
theorem dX11_cellOf_11 : decode cX11_cellOf 11 = .ok (.iconst 1, 1) := by decide +kernel
theorem dX11_cellOf_12 : decode cX11_cellOf 12 = .ok (.isub, 1) := by decide +kernel
theorem dX11_cellOf_13 : decode cX11_cellOf 13 = .ok (.ireturn, 1) := by decide +kernel
theorem dX11_says_0 : decode cX11_says 0 = .ok (.iload_n 1, 1) := by decide +kernel
theorem dX11_says_1 : decode cX11_says 1 = .ok (.iconst 1, 1) := by decide +kernel
theorem dX11_says_2 : decode cX11_says 2 = .ok (.iload_n 2, 1) := by decide +kernel
theorem dX11_says_3 : decode cX11_says 3 = .ok (.ishl, 1) := by decide +kernel
theorem dX11_says_4 : decode cX11_says 4 = .ok (.ior, 1) := by decide +kernel
theorem dX11_says_5 : decode cX11_says 5 = .ok (.istore_n 3, 1) := by decide +kernel
theorem dX11_says_6 : decode cX11_says 6 = .ok (.aload_n 0, 1) := by decide +kernel
theorem dX11_says_7 : decode cX11_says 7 = .ok (.getfield 35, 3) := by decide +kernel
theorem dX11_says_10 : decode cX11_says 10 = .ok (.iconst 4, 1) := by decide +kernel
theorem dX11_says_11 : decode cX11_says 11 = .ok (.iload_n 2, 1) := by decide +kernel
theorem dX11_says_12 : decode cX11_says 12 = .ok (.iadd, 1) := by decide +kernel
theorem dX11_says_13 : decode cX11_says 13 = .ok (.iaload, 1) := by decide +kernel
theorem dX11_says_14 : decode cX11_says 14 = .ok (.invokestatic 387, 3) := by decide +kernel
theorem dX11_says_17 : decode cX11_says 17 = .ok (.ifCond .eq 7, 3) := by decide +kernel
theorem dX11_says_20 : decode cX11_says 20 = .ok (.iconst 1, 1) := by decide +kernel
theorem dX11_says_21 : decode cX11_says 21 = .ok (.goto 4, 3) := by decide +kernel
theorem dX11_says_24 : decode cX11_says 24 = .ok (.iconst 0, 1) := by decide +kernel
theorem dX11_says_25 : decode cX11_says 25 = .ok (.istore 4, 2) := by decide +kernel
theorem dX11_says_27 : decode cX11_says 27 = .ok (.iload_n 1, 1) := by decide +kernel
theorem dX11_says_28 : decode cX11_says 28 = .ok (.ifCond .ne 20, 3) := by decide +kernel
theorem dX11_says_31 : decode cX11_says 31 = .ok (.aload_n 0, 1) := by decide +kernel
theorem dX11_says_32 : decode cX11_says 32 = .ok (.getfield 67, 3) := by decide +kernel
theorem dX11_says_35 : decode cX11_says 35 = .ok (.iload_n 3, 1) := by decide +kernel
theorem dX11_says_36 : decode cX11_says 36 = .ok (.iload 4, 2) := by decide +kernel
theorem dX11_says_38 : decode cX11_says 38 = .ok (.iconst 1, 1) := by decide +kernel
theorem dX11_says_39 : decode cX11_says 39 = .ok (.invokestatic 446, 3) := by decide +kernel
theorem dX11_says_42 : decode cX11_says 42 = .ok (.dup2, 1) := by decide +kernel
theorem dX11_says_43 : decode cX11_says 43 = .ok (.laload, 1) := by decide +kernel
theorem dX11_says_44 : decode cX11_says 44 = .ok (.lconst 1, 1) := by decide +kernel
theorem dX11_says_45 : decode cX11_says 45 = .ok (.ladd, 1) := by decide +kernel
theorem dX11_says_46 : decode cX11_says 46 = .ok (.lastore, 1) := by decide +kernel
theorem dX11_says_47 : decode cX11_says 47 = .ok (.return_, 1) := by decide +kernel
theorem dX11_says_48 : decode cX11_says 48 = .ok (.iconst 1, 1) := by decide +kernel
theorem dX11_says_49 : decode cX11_says 49 = .ok (.istore 5, 2) := by decide +kernel
theorem dX11_says_51 : decode cX11_says 51 = .ok (.iload 5, 2) := by decide +kernel
theorem dX11_says_53 : decode cX11_says 53 = .ok (.aload_n 0, 1) := by decide +kernel
theorem dX11_says_54 : decode cX11_says 54 = .ok (.getfield 35, 3) := by decide +kernel
theorem dX11_says_57 : decode cX11_says 57 = .ok (.iconst 3, 1) := by decide +kernel
theorem dX11_says_58 : decode cX11_says 58 = .ok (.iaload, 1) := by decide +kernel
theorem dX11_says_59 : decode cX11_says 59 = .ok (.if_icmp .gt 81, 3) := by decide +kernel
theorem dX11_says_62 : decode cX11_says 62 = .ok (.aload_n 0, 1) := by decide +kernel
theorem dX11_says_63 : decode cX11_says 63 = .ok (.getfield 67, 3) := by decide +kernel
theorem dX11_says_66 : decode cX11_says 66 = .ok (.iload_n 3, 1) := by decide +kernel
theorem dX11_says_67 : decode cX11_says 67 = .ok (.iload 4, 2) := by decide +kernel
theorem dX11_says_69 : decode cX11_says 69 = .ok (.iconst 1, 1) := by decide +kernel
theorem dX11_says_70 : decode cX11_says 70 = .ok (.invokestatic 446, 3) := by decide +kernel
theorem dX11_says_73 : decode cX11_says 73 = .ok (.dup2, 1) := by decide +kernel
theorem dX11_says_74 : decode cX11_says 74 = .ok (.laload, 1) := by decide +kernel
theorem dX11_says_75 : decode cX11_says 75 = .ok (.aload_n 0, 1) := by decide +kernel
theorem dX11_says_76 : decode cX11_says 76 = .ok (.getfield 67, 3) := by decide +kernel
theorem dX11_says_79 : decode cX11_says 79 = .ok (.iload_n 1, 1) := by decide +kernel
theorem dX11_says_80 : decode cX11_says 80 = .ok (.iconst 1, 1) := by decide +kernel
theorem dX11_says_81 : decode cX11_says 81 = .ok (.iload 4, 2) := by decide +kernel
theorem dX11_says_83 : decode cX11_says 83 = .ok (.isub, 1) := by decide +kernel
theorem dX11_says_84 : decode cX11_says 84 = .ok (.iload 5, 2) := by decide +kernel
theorem dX11_says_86 : decode cX11_says 86 = .ok (.invokestatic 446, 3) := by decide +kernel
theorem dX11_says_89 : decode cX11_says 89 = .ok (.laload, 1) := by decide +kernel
theorem dX11_says_90 : decode cX11_says 90 = .ok (.ladd, 1) := by decide +kernel
theorem dX11_says_91 : decode cX11_says 91 = .ok (.lastore, 1) := by decide +kernel
theorem dX11_says_92 : decode cX11_says 92 = .ok (.iload 5, 2) := by decide +kernel
theorem dX11_says_94 : decode cX11_says 94 = .ok (.aload_n 0, 1) := by decide +kernel
theorem dX11_says_95 : decode cX11_says 95 = .ok (.getfield 35, 3) := by decide +kernel
theorem dX11_says_98 : decode cX11_says 98 = .ok (.iconst 3, 1) := by decide +kernel
theorem dX11_says_99 : decode cX11_says 99 = .ok (.iaload, 1) := by decide +kernel
theorem dX11_says_100 : decode cX11_says 100 = .ok (.if_icmp .ge 34, 3) := by decide +kernel
theorem dX11_says_103 : decode cX11_says 103 = .ok (.aload_n 0, 1) := by decide +kernel
theorem dX11_says_104 : decode cX11_says 104 = .ok (.getfield 67, 3) := by decide +kernel
theorem dX11_says_107 : decode cX11_says 107 = .ok (.iload_n 3, 1) := by decide +kernel
theorem dX11_says_108 : decode cX11_says 108 = .ok (.iload 4, 2) := by decide +kernel
theorem dX11_says_110 : decode cX11_says 110 = .ok (.iload 5, 2) := by decide +kernel
theorem dX11_says_112 : decode cX11_says 112 = .ok (.iconst 1, 1) := by decide +kernel
theorem dX11_says_113 : decode cX11_says 113 = .ok (.iadd, 1) := by decide +kernel
theorem dX11_says_114 : decode cX11_says 114 = .ok (.invokestatic 446, 3) := by decide +kernel
theorem dX11_says_117 : decode cX11_says 117 = .ok (.dup2, 1) := by decide +kernel
theorem dX11_says_118 : decode cX11_says 118 = .ok (.laload, 1) := by decide +kernel
theorem dX11_says_119 : decode cX11_says 119 = .ok (.aload_n 0, 1) := by decide +kernel
theorem dX11_says_120 : decode cX11_says 120 = .ok (.getfield 67, 3) := by decide +kernel
theorem dX11_says_123 : decode cX11_says 123 = .ok (.iload_n 1, 1) := by decide +kernel
theorem dX11_says_124 : decode cX11_says 124 = .ok (.iload 4, 2) := by decide +kernel
theorem dX11_says_126 : decode cX11_says 126 = .ok (.iload 5, 2) := by decide +kernel
theorem dX11_says_128 : decode cX11_says 128 = .ok (.invokestatic 446, 3) := by decide +kernel
theorem dX11_says_131 : decode cX11_says 131 = .ok (.laload, 1) := by decide +kernel
theorem dX11_says_132 : decode cX11_says 132 = .ok (.ladd, 1) := by decide +kernel
theorem dX11_says_133 : decode cX11_says 133 = .ok (.lastore, 1) := by decide +kernel
theorem dX11_says_134 : decode cX11_says 134 = .ok (.iinc 5 1, 3) := by decide +kernel
theorem dX11_says_137 : decode cX11_says 137 = .ok (.goto (-86), 3) := by decide +kernel
theorem dX11_says_140 : decode cX11_says 140 = .ok (.return_, 1) := by decide +kernel
theorem dX11_sayable_0 : decode cX11_sayable 0 = .ok (.aload_n 0, 1) := by decide +kernel
theorem dX11_sayable_1 : decode cX11_sayable 1 = .ok (.iconst 0, 1) := by decide +kernel
theorem dX11_sayable_2 : decode cX11_sayable 2 = .ok (.putfield 94, 3) := by decide +kernel
theorem dX11_sayable_5 : decode cX11_sayable 5 = .ok (.aload_n 0, 1) := by decide +kernel
theorem dX11_sayable_6 : decode cX11_sayable 6 = .ok (.iconst 0, 1) := by decide +kernel
theorem dX11_sayable_7 : decode cX11_sayable 7 = .ok (.putfield 97, 3) := by decide +kernel
theorem dX11_sayable_10 : decode cX11_sayable 10 = .ok (.iload_n 1, 1) := by decide +kernel
theorem dX11_sayable_11 : decode cX11_sayable 11 = .ok (.i2l, 1) := by decide +kernel
theorem dX11_sayable_12 : decode cX11_sayable 12 = .ok (.lconst 1, 1) := by decide +kernel
theorem dX11_sayable_13 : decode cX11_sayable 13 = .ok (.ldc2_w 414, 3) := by decide +kernel
theorem dX11_sayable_16 : decode cX11_sayable 16 = .ok (.invokestatic 129, 3) := by decide +kernel
theorem dX11_sayable_19 : decode cX11_sayable 19 = .ok (.ifCond .ne 9, 3) := by decide +kernel
theorem dX11_sayable_22 : decode cX11_sayable 22 = .ok (.aload_n 0, 1) := by decide +kernel
theorem dX11_sayable_23 : decode cX11_sayable 23 = .ok (.iconst 5, 1) := by decide +kernel
theorem dX11_sayable_24 : decode cX11_sayable 24 = .ok (.invokevirtual 109, 3) := by decide +kernel
theorem dX11_sayable_27 : decode cX11_sayable 27 = .ok (.ireturn, 1) := by decide +kernel
theorem dX11_sayable_28 : decode cX11_sayable 28 = .ok (.aload_n 0, 1) := by decide +kernel
theorem dX11_sayable_29 : decode cX11_sayable 29 = .ok (.invokevirtual 443, 3) := by decide +kernel
theorem dX11_sayable_32 : decode cX11_sayable 32 = .ok (.lconst 0, 1) := by decide +kernel
theorem dX11_sayable_33 : decode cX11_sayable 33 = .ok (.lstore_n 2, 1) := by decide +kernel
theorem dX11_sayable_34 : decode cX11_sayable 34 = .ok (.lconst 0, 1) := by decide +kernel
theorem dX11_sayable_35 : decode cX11_sayable 35 = .ok (.lstore 4, 2) := by decide +kernel
theorem dX11_sayable_37 : decode cX11_sayable 37 = .ok (.iconst 1, 1) := by decide +kernel
theorem dX11_sayable_38 : decode cX11_sayable 38 = .ok (.istore 6, 2) := by decide +kernel
theorem dX11_sayable_40 : decode cX11_sayable 40 = .ok (.iload 6, 2) := by decide +kernel
theorem dX11_sayable_42 : decode cX11_sayable 42 = .ok (.iconst 1, 1) := by decide +kernel
theorem dX11_sayable_43 : decode cX11_sayable 43 = .ok (.aload_n 0, 1) := by decide +kernel
theorem dX11_sayable_44 : decode cX11_sayable 44 = .ok (.getfield 35, 3) := by decide +kernel
theorem dX11_sayable_47 : decode cX11_sayable 47 = .ok (.iconst 1, 1) := by decide +kernel
theorem dX11_sayable_48 : decode cX11_sayable 48 = .ok (.iaload, 1) := by decide +kernel
theorem dX11_sayable_49 : decode cX11_sayable 49 = .ok (.ishl, 1) := by decide +kernel
theorem dX11_sayable_50 : decode cX11_sayable 50 = .ok (.if_icmp .ge 158, 3) := by decide +kernel
theorem dX11_sayable_53 : decode cX11_sayable 53 = .ok (.iconst 0, 1) := by decide +kernel
theorem dX11_sayable_54 : decode cX11_sayable 54 = .ok (.istore 7, 2) := by decide +kernel
theorem dX11_sayable_56 : decode cX11_sayable 56 = .ok (.iload 7, 2) := by decide +kernel
theorem dX11_sayable_58 : decode cX11_sayable 58 = .ok (.bipush 18, 2) := by decide +kernel
theorem dX11_sayable_60 : decode cX11_sayable 60 = .ok (.if_icmp .ge 23, 3) := by decide +kernel
theorem dX11_sayable_63 : decode cX11_sayable 63 = .ok (.aload_n 0, 1) := by decide +kernel
theorem dX11_sayable_64 : decode cX11_sayable 64 = .ok (.getfield 67, 3) := by decide +kernel
theorem dX11_sayable_67 : decode cX11_sayable 67 = .ok (.bipush 18, 2) := by decide +kernel
theorem dX11_sayable_69 : decode cX11_sayable 69 = .ok (.iload 6, 2) := by decide +kernel
theorem dX11_sayable_71 : decode cX11_sayable 71 = .ok (.imul, 1) := by decide +kernel
theorem dX11_sayable_72 : decode cX11_sayable 72 = .ok (.iload 7, 2) := by decide +kernel
theorem dX11_sayable_74 : decode cX11_sayable 74 = .ok (.iadd, 1) := by decide +kernel
theorem dX11_sayable_75 : decode cX11_sayable 75 = .ok (.lconst 0, 1) := by decide +kernel
theorem dX11_sayable_76 : decode cX11_sayable 76 = .ok (.lastore, 1) := by decide +kernel
theorem dX11_sayable_77 : decode cX11_sayable 77 = .ok (.iinc 7 1, 3) := by decide +kernel
theorem dX11_sayable_80 : decode cX11_sayable 80 = .ok (.goto (-24), 3) := by decide +kernel
theorem dX11_sayable_83 : decode cX11_sayable 83 = .ok (.iconst 0, 1) := by decide +kernel
theorem dX11_sayable_84 : decode cX11_sayable 84 = .ok (.istore 7, 2) := by decide +kernel
theorem dX11_sayable_86 : decode cX11_sayable 86 = .ok (.iload 7, 2) := by decide +kernel
theorem dX11_sayable_88 : decode cX11_sayable 88 = .ok (.aload_n 0, 1) := by decide +kernel
theorem dX11_sayable_89 : decode cX11_sayable 89 = .ok (.getfield 35, 3) := by decide +kernel
theorem dX11_sayable_92 : decode cX11_sayable 92 = .ok (.iconst 1, 1) := by decide +kernel
theorem dX11_sayable_93 : decode cX11_sayable 93 = .ok (.iaload, 1) := by decide +kernel
theorem dX11_sayable_94 : decode cX11_sayable 94 = .ok (.if_icmp .ge 52, 3) := by decide +kernel
theorem dX11_sayable_97 : decode cX11_sayable 97 = .ok (.iload 6, 2) := by decide +kernel
theorem dX11_sayable_99 : decode cX11_sayable 99 = .ok (.iload 7, 2) := by decide +kernel
theorem dX11_sayable_101 : decode cX11_sayable 101 = .ok (.invokestatic 277, 3) := by decide +kernel
theorem dX11_sayable_104 : decode cX11_sayable 104 = .ok (.ifCond .eq 36, 3) := by decide +kernel
theorem dX11_sayable_107 : decode cX11_sayable 107 = .ok (.aload_n 0, 1) := by decide +kernel
theorem dX11_sayable_108 : decode cX11_sayable 108 = .ok (.iload 6, 2) := by decide +kernel
theorem dX11_sayable_110 : decode cX11_sayable 110 = .ok (.iconst 1, 1) := by decide +kernel
theorem dX11_sayable_111 : decode cX11_sayable 111 = .ok (.iload 7, 2) := by decide +kernel
theorem dX11_sayable_113 : decode cX11_sayable 113 = .ok (.ishl, 1) := by decide +kernel
theorem dX11_sayable_114 : decode cX11_sayable 114 = .ok (.iconst (-1), 1) := by decide +kernel
theorem dX11_sayable_115 : decode cX11_sayable 115 = .ok (.ixor, 1) := by decide +kernel
theorem dX11_sayable_116 : decode cX11_sayable 116 = .ok (.iand, 1) := by decide +kernel
theorem dX11_sayable_117 : decode cX11_sayable 117 = .ok (.iload 7, 2) := by decide +kernel
theorem dX11_sayable_119 : decode cX11_sayable 119 = .ok (.invokevirtual 354, 3) := by decide +kernel
theorem dX11_sayable_122 : decode cX11_sayable 122 = .ok (.ifCond .eq 18, 3) := by decide +kernel
theorem dX11_sayable_125 : decode cX11_sayable 125 = .ok (.aload_n 0, 1) := by decide +kernel
theorem dX11_sayable_126 : decode cX11_sayable 126 = .ok (.iload 6, 2) := by decide +kernel
theorem dX11_sayable_128 : decode cX11_sayable 128 = .ok (.iconst 1, 1) := by decide +kernel
theorem dX11_sayable_129 : decode cX11_sayable 129 = .ok (.iload 7, 2) := by decide +kernel
theorem dX11_sayable_131 : decode cX11_sayable 131 = .ok (.ishl, 1) := by decide +kernel
theorem dX11_sayable_132 : decode cX11_sayable 132 = .ok (.iconst (-1), 1) := by decide +kernel
theorem dX11_sayable_133 : decode cX11_sayable 133 = .ok (.ixor, 1) := by decide +kernel
theorem dX11_sayable_134 : decode cX11_sayable 134 = .ok (.iand, 1) := by decide +kernel
theorem dX11_sayable_135 : decode cX11_sayable 135 = .ok (.iload 7, 2) := by decide +kernel
theorem dX11_sayable_137 : decode cX11_sayable 137 = .ok (.invokevirtual 449, 3) := by decide +kernel
theorem dX11_sayable_140 : decode cX11_sayable 140 = .ok (.iinc 7 1, 3) := by decide +kernel
theorem dX11_sayable_143 : decode cX11_sayable 143 = .ok (.goto (-57), 3) := by decide +kernel
theorem dX11_sayable_146 : decode cX11_sayable 146 = .ok (.iload 6, 2) := by decide +kernel
theorem dX11_sayable_148 : decode cX11_sayable 148 = .ok (.invokestatic 381, 3) := by decide +kernel
theorem dX11_sayable_151 : decode cX11_sayable 151 = .ok (.iload_n 1, 1) := by decide +kernel
theorem dX11_sayable_152 : decode cX11_sayable 152 = .ok (.if_icmp .eq 6, 3) := by decide +kernel
theorem dX11_sayable_155 : decode cX11_sayable 155 = .ok (.goto 47, 3) := by decide +kernel
theorem dX11_sayable_158 : decode cX11_sayable 158 = .ok (.lload_n 2, 1) := by decide +kernel
theorem dX11_sayable_159 : decode cX11_sayable 159 = .ok (.aload_n 0, 1) := by decide +kernel
theorem dX11_sayable_160 : decode cX11_sayable 160 = .ok (.getfield 63, 3) := by decide +kernel
theorem dX11_sayable_163 : decode cX11_sayable 163 = .ok (.iload 6, 2) := by decide +kernel
theorem dX11_sayable_165 : decode cX11_sayable 165 = .ok (.laload, 1) := by decide +kernel
theorem dX11_sayable_166 : decode cX11_sayable 166 = .ok (.ladd, 1) := by decide +kernel
theorem dX11_sayable_167 : decode cX11_sayable 167 = .ok (.lstore_n 2, 1) := by decide +kernel
theorem dX11_sayable_168 : decode cX11_sayable 168 = .ok (.iconst 0, 1) := by decide +kernel
theorem dX11_sayable_169 : decode cX11_sayable 169 = .ok (.istore 7, 2) := by decide +kernel
theorem dX11_sayable_171 : decode cX11_sayable 171 = .ok (.iload 7, 2) := by decide +kernel
theorem dX11_sayable_173 : decode cX11_sayable 173 = .ok (.bipush 18, 2) := by decide +kernel
theorem dX11_sayable_175 : decode cX11_sayable 175 = .ok (.if_icmp .ge 27, 3) := by decide +kernel
theorem dX11_sayable_178 : decode cX11_sayable 178 = .ok (.lload 4, 2) := by decide +kernel
theorem dX11_sayable_180 : decode cX11_sayable 180 = .ok (.aload_n 0, 1) := by decide +kernel
theorem dX11_sayable_181 : decode cX11_sayable 181 = .ok (.getfield 67, 3) := by decide +kernel
theorem dX11_sayable_184 : decode cX11_sayable 184 = .ok (.bipush 18, 2) := by decide +kernel
theorem dX11_sayable_186 : decode cX11_sayable 186 = .ok (.iload 6, 2) := by decide +kernel
theorem dX11_sayable_188 : decode cX11_sayable 188 = .ok (.imul, 1) := by decide +kernel
theorem dX11_sayable_189 : decode cX11_sayable 189 = .ok (.iload 7, 2) := by decide +kernel
theorem dX11_sayable_191 : decode cX11_sayable 191 = .ok (.iadd, 1) := by decide +kernel
theorem dX11_sayable_192 : decode cX11_sayable 192 = .ok (.laload, 1) := by decide +kernel
theorem dX11_sayable_193 : decode cX11_sayable 193 = .ok (.ladd, 1) := by decide +kernel
theorem dX11_sayable_194 : decode cX11_sayable 194 = .ok (.lstore 4, 2) := by decide +kernel
theorem dX11_sayable_196 : decode cX11_sayable 196 = .ok (.iinc 7 1, 3) := by decide +kernel
theorem dX11_sayable_199 : decode cX11_sayable 199 = .ok (.goto (-28), 3) := by decide +kernel
theorem dX11_sayable_202 : decode cX11_sayable 202 = .ok (.iinc 6 1, 3) := by decide +kernel
theorem dX11_sayable_205 : decode cX11_sayable 205 = .ok (.goto (-165), 3) := by decide +kernel
theorem dX11_sayable_208 : decode cX11_sayable 208 = .ok (.lload_n 2, 1) := by decide +kernel
theorem dX11_sayable_209 : decode cX11_sayable 209 = .ok (.lconst 0, 1) := by decide +kernel
theorem dX11_sayable_210 : decode cX11_sayable 210 = .ok (.lcmp, 1) := by decide +kernel
theorem dX11_sayable_211 : decode cX11_sayable 211 = .ok (.ifCond .ne 12, 3) := by decide +kernel
theorem dX11_sayable_214 : decode cX11_sayable 214 = .ok (.aload_n 0, 1) := by decide +kernel
theorem dX11_sayable_215 : decode cX11_sayable 215 = .ok (.bipush 8, 2) := by decide +kernel
theorem dX11_sayable_217 : decode cX11_sayable 217 = .ok (.invokevirtual 109, 3) := by decide +kernel
theorem dX11_sayable_220 : decode cX11_sayable 220 = .ok (.goto 10, 3) := by decide +kernel
theorem dX11_sayable_223 : decode cX11_sayable 223 = .ok (.aload_n 0, 1) := by decide +kernel
theorem dX11_sayable_224 : decode cX11_sayable 224 = .ok (.lload 4, 2) := by decide +kernel
theorem dX11_sayable_226 : decode cX11_sayable 226 = .ok (.lload_n 2, 1) := by decide +kernel
theorem dX11_sayable_227 : decode cX11_sayable 227 = .ok (.invokevirtual 452, 3) := by decide +kernel
theorem dX11_sayable_230 : decode cX11_sayable 230 = .ok (.ireturn, 1) := by decide +kernel
theorem dX11_needsOf_0 : decode cX11_needsOf 0 = .ok (.iconst 1, 1) := by decide +kernel
theorem dX11_needsOf_1 : decode cX11_needsOf 1 = .ok (.iload_n 1, 1) := by decide +kernel
theorem dX11_needsOf_2 : decode cX11_needsOf 2 = .ok (.ishl, 1) := by decide +kernel
theorem dX11_needsOf_3 : decode cX11_needsOf 3 = .ok (.istore_n 2, 1) := by decide +kernel
theorem dX11_needsOf_4 : decode cX11_needsOf 4 = .ok (.iload_n 1, 1) := by decide +kernel
theorem dX11_needsOf_5 : decode cX11_needsOf 5 = .ok (.istore_n 3, 1) := by decide +kernel
theorem dX11_needsOf_6 : decode cX11_needsOf 6 = .ok (.iload_n 3, 1) := by decide +kernel
theorem dX11_needsOf_7 : decode cX11_needsOf 7 = .ok (.ifCond .lt 33, 3) := by decide +kernel
theorem dX11_needsOf_10 : decode cX11_needsOf 10 = .ok (.iload_n 2, 1) := by decide +kernel
theorem dX11_needsOf_11 : decode cX11_needsOf 11 = .ok (.iload_n 2, 1) := by decide +kernel
theorem dX11_needsOf_12 : decode cX11_needsOf 12 = .ok (.iload_n 3, 1) := by decide +kernel
theorem dX11_needsOf_13 : decode cX11_needsOf 13 = .ok (.invokestatic 277, 3) := by decide +kernel
theorem dX11_needsOf_16 : decode cX11_needsOf 16 = .ok (.ifCond .eq 15, 3) := by decide +kernel
theorem dX11_needsOf_19 : decode cX11_needsOf 19 = .ok (.aload_n 0, 1) := by decide +kernel
theorem dX11_needsOf_20 : decode cX11_needsOf 20 = .ok (.getfield 35, 3) := by decide +kernel
theorem dX11_needsOf_23 : decode cX11_needsOf 23 = .ok (.bipush 52, 2) := by decide +kernel
theorem dX11_needsOf_25 : decode cX11_needsOf 25 = .ok (.iload_n 3, 1) := by decide +kernel
theorem dX11_needsOf_26 : decode cX11_needsOf 26 = .ok (.iadd, 1) := by decide +kernel
theorem dX11_needsOf_27 : decode cX11_needsOf 27 = .ok (.iaload, 1) := by decide +kernel
theorem dX11_needsOf_28 : decode cX11_needsOf 28 = .ok (.goto 4, 3) := by decide +kernel
theorem dX11_needsOf_31 : decode cX11_needsOf 31 = .ok (.iconst 0, 1) := by decide +kernel
theorem dX11_needsOf_32 : decode cX11_needsOf 32 = .ok (.ior, 1) := by decide +kernel
theorem dX11_needsOf_33 : decode cX11_needsOf 33 = .ok (.istore_n 2, 1) := by decide +kernel
theorem dX11_needsOf_34 : decode cX11_needsOf 34 = .ok (.iinc 3 (-1), 3) := by decide +kernel
theorem dX11_needsOf_37 : decode cX11_needsOf 37 = .ok (.goto (-31), 3) := by decide +kernel
theorem dX11_needsOf_40 : decode cX11_needsOf 40 = .ok (.iload_n 2, 1) := by decide +kernel
theorem dX11_needsOf_41 : decode cX11_needsOf 41 = .ok (.ireturn, 1) := by decide +kernel
theorem dX11_reach_0 : decode cX11_reach 0 = .ok (.aload_n 0, 1) := by decide +kernel
theorem dX11_reach_1 : decode cX11_reach 1 = .ok (.iconst 0, 1) := by decide +kernel
theorem dX11_reach_2 : decode cX11_reach 2 = .ok (.putfield 94, 3) := by decide +kernel
theorem dX11_reach_5 : decode cX11_reach 5 = .ok (.aload_n 0, 1) := by decide +kernel
theorem dX11_reach_6 : decode cX11_reach 6 = .ok (.iconst 0, 1) := by decide +kernel
theorem dX11_reach_7 : decode cX11_reach 7 = .ok (.putfield 97, 3) := by decide +kernel
theorem dX11_reach_10 : decode cX11_reach 10 = .ok (.aload_n 0, 1) := by decide +kernel
theorem dX11_reach_11 : decode cX11_reach 11 = .ok (.iload_n 1, 1) := by decide +kernel
theorem dX11_reach_12 : decode cX11_reach 12 = .ok (.invokevirtual 339, 3) := by decide +kernel
theorem dX11_reach_15 : decode cX11_reach 15 = .ok (.ifCond .eq 14, 3) := by decide +kernel
theorem dX11_reach_18 : decode cX11_reach 18 = .ok (.aload_n 0, 1) := by decide +kernel
theorem dX11_reach_19 : decode cX11_reach 19 = .ok (.iload_n 1, 1) := by decide +kernel
theorem dX11_reach_20 : decode cX11_reach 20 = .ok (.invokevirtual 456, 3) := by decide +kernel
theorem dX11_reach_23 : decode cX11_reach 23 = .ok (.invokestatic 381, 3) := by decide +kernel
theorem dX11_reach_26 : decode cX11_reach 26 = .ok (.goto 8, 3) := by decide +kernel
theorem dX11_reach_29 : decode cX11_reach 29 = .ok (.aload_n 0, 1) := by decide +kernel
theorem dX11_reach_30 : decode cX11_reach 30 = .ok (.iconst 2, 1) := by decide +kernel
theorem dX11_reach_31 : decode cX11_reach 31 = .ok (.invokevirtual 336, 3) := by decide +kernel
theorem dX11_reach_34 : decode cX11_reach 34 = .ok (.ireturn, 1) := by decide +kernel
theorem dX11_root_0 : decode cX11_root 0 = .ok (.aload_n 0, 1) := by decide +kernel
theorem dX11_root_1 : decode cX11_root 1 = .ok (.iconst 0, 1) := by decide +kernel
theorem dX11_root_2 : decode cX11_root 2 = .ok (.putfield 94, 3) := by decide +kernel
theorem dX11_root_5 : decode cX11_root 5 = .ok (.aload_n 0, 1) := by decide +kernel
theorem dX11_root_6 : decode cX11_root 6 = .ok (.iconst 0, 1) := by decide +kernel
theorem dX11_root_7 : decode cX11_root 7 = .ok (.putfield 97, 3) := by decide +kernel
theorem dX11_root_10 : decode cX11_root 10 = .ok (.iconst (-1), 1) := by decide +kernel
theorem dX11_root_11 : decode cX11_root 11 = .ok (.istore_n 1, 1) := by decide +kernel
theorem dX11_root_12 : decode cX11_root 12 = .ok (.iconst 0, 1) := by decide +kernel
theorem dX11_root_13 : decode cX11_root 13 = .ok (.istore_n 2, 1) := by decide +kernel
theorem dX11_root_14 : decode cX11_root 14 = .ok (.iconst 0, 1) := by decide +kernel
theorem dX11_root_15 : decode cX11_root 15 = .ok (.istore_n 3, 1) := by decide +kernel
theorem dX11_root_16 : decode cX11_root 16 = .ok (.iload_n 3, 1) := by decide +kernel
theorem dX11_root_17 : decode cX11_root 17 = .ok (.aload_n 0, 1) := by decide +kernel
theorem dX11_root_18 : decode cX11_root 18 = .ok (.getfield 35, 3) := by decide +kernel
theorem dX11_root_21 : decode cX11_root 21 = .ok (.iconst 1, 1) := by decide +kernel
theorem dX11_root_22 : decode cX11_root 22 = .ok (.iaload, 1) := by decide +kernel
theorem dX11_root_23 : decode cX11_root 23 = .ok (.if_icmp .ge 79, 3) := by decide +kernel
theorem dX11_root_26 : decode cX11_root 26 = .ok (.iconst 0, 1) := by decide +kernel
theorem dX11_root_27 : decode cX11_root 27 = .ok (.istore 4, 2) := by decide +kernel
theorem dX11_root_29 : decode cX11_root 29 = .ok (.iconst 0, 1) := by decide +kernel
theorem dX11_root_30 : decode cX11_root 30 = .ok (.istore 5, 2) := by decide +kernel
theorem dX11_root_32 : decode cX11_root 32 = .ok (.iload 5, 2) := by decide +kernel
theorem dX11_root_34 : decode cX11_root 34 = .ok (.aload_n 0, 1) := by decide +kernel
theorem dX11_root_35 : decode cX11_root 35 = .ok (.getfield 35, 3) := by decide +kernel
theorem dX11_root_38 : decode cX11_root 38 = .ok (.iconst 1, 1) := by decide +kernel
theorem dX11_root_39 : decode cX11_root 39 = .ok (.iaload, 1) := by decide +kernel
theorem dX11_root_40 : decode cX11_root 40 = .ok (.if_icmp .ge 38, 3) := by decide +kernel
theorem dX11_root_43 : decode cX11_root 43 = .ok (.iload 4, 2) := by decide +kernel
theorem dX11_root_45 : decode cX11_root 45 = .ok (.iload 5, 2) := by decide +kernel
theorem dX11_root_47 : decode cX11_root 47 = .ok (.iload_n 3, 1) := by decide +kernel
theorem dX11_root_48 : decode cX11_root 48 = .ok (.if_icmp .eq 20, 3) := by decide +kernel
theorem dX11_root_51 : decode cX11_root 51 = .ok (.aload_n 0, 1) := by decide +kernel
theorem dX11_root_52 : decode cX11_root 52 = .ok (.iload 5, 2) := by decide +kernel
theorem dX11_root_54 : decode cX11_root 54 = .ok (.invokevirtual 456, 3) := by decide +kernel
theorem dX11_root_57 : decode cX11_root 57 = .ok (.iload_n 3, 1) := by decide +kernel
theorem dX11_root_58 : decode cX11_root 58 = .ok (.invokestatic 277, 3) := by decide +kernel
theorem dX11_root_61 : decode cX11_root 61 = .ok (.ifCond .eq 7, 3) := by decide +kernel
theorem dX11_root_64 : decode cX11_root 64 = .ok (.iconst 1, 1) := by decide +kernel
theorem dX11_root_65 : decode cX11_root 65 = .ok (.goto 4, 3) := by decide +kernel
theorem dX11_root_68 : decode cX11_root 68 = .ok (.iconst 0, 1) := by decide +kernel
theorem dX11_root_69 : decode cX11_root 69 = .ok (.iadd, 1) := by decide +kernel
theorem dX11_root_70 : decode cX11_root 70 = .ok (.istore 4, 2) := by decide +kernel
theorem dX11_root_72 : decode cX11_root 72 = .ok (.iinc 5 1, 3) := by decide +kernel
theorem dX11_root_75 : decode cX11_root 75 = .ok (.goto (-43), 3) := by decide +kernel
theorem dX11_root_78 : decode cX11_root 78 = .ok (.iload_n 1, 1) := by decide +kernel
theorem dX11_root_79 : decode cX11_root 79 = .ok (.ifCond .lt 12, 3) := by decide +kernel
theorem dX11_root_82 : decode cX11_root 82 = .ok (.iload 4, 2) := by decide +kernel
theorem dX11_root_84 : decode cX11_root 84 = .ok (.iload_n 2, 1) := by decide +kernel
theorem dX11_root_85 : decode cX11_root 85 = .ok (.if_icmp .gt 6, 3) := by decide +kernel
theorem dX11_root_88 : decode cX11_root 88 = .ok (.goto 8, 3) := by decide +kernel
theorem dX11_root_91 : decode cX11_root 91 = .ok (.iload_n 3, 1) := by decide +kernel
theorem dX11_root_92 : decode cX11_root 92 = .ok (.istore_n 1, 1) := by decide +kernel
theorem dX11_root_93 : decode cX11_root 93 = .ok (.iload 4, 2) := by decide +kernel
theorem dX11_root_95 : decode cX11_root 95 = .ok (.istore_n 2, 1) := by decide +kernel
theorem dX11_root_96 : decode cX11_root 96 = .ok (.iinc 3 1, 3) := by decide +kernel
theorem dX11_root_99 : decode cX11_root 99 = .ok (.goto (-83), 3) := by decide +kernel
theorem dX11_root_102 : decode cX11_root 102 = .ok (.iload_n 1, 1) := by decide +kernel
theorem dX11_root_103 : decode cX11_root 103 = .ok (.ifCond .ge 12, 3) := by decide +kernel
theorem dX11_root_106 : decode cX11_root 106 = .ok (.aload_n 0, 1) := by decide +kernel
theorem dX11_root_107 : decode cX11_root 107 = .ok (.bipush 8, 2) := by decide +kernel
theorem dX11_root_109 : decode cX11_root 109 = .ok (.invokevirtual 336, 3) := by decide +kernel
theorem dX11_root_112 : decode cX11_root 112 = .ok (.goto 4, 3) := by decide +kernel
theorem dX11_root_115 : decode cX11_root 115 = .ok (.iload_n 1, 1) := by decide +kernel
theorem dX11_root_116 : decode cX11_root 116 = .ok (.ireturn, 1) := by decide +kernel
theorem dX11_planLong_0 : decode cX11_planLong 0 = .ok (.aload_n 0, 1) := by decide +kernel
theorem dX11_planLong_1 : decode cX11_planLong 1 = .ok (.getfield 17, 3) := by decide +kernel
theorem dX11_planLong_4 : decode cX11_planLong 4 = .ok (.iload_n 1, 1) := by decide +kernel
theorem dX11_planLong_5 : decode cX11_planLong 5 = .ok (.iaload, 1) := by decide +kernel
theorem dX11_planLong_6 : decode cX11_planLong 6 = .ok (.ifCond .ge 7, 3) := by decide +kernel
theorem dX11_planLong_9 : decode cX11_planLong 9 = .ok (.iconst 0, 1) := by decide +kernel
theorem dX11_planLong_10 : decode cX11_planLong 10 = .ok (.goto 9, 3) := by decide +kernel
theorem dX11_planLong_13 : decode cX11_planLong 13 = .ok (.aload_n 0, 1) := by decide +kernel
theorem dX11_planLong_14 : decode cX11_planLong 14 = .ok (.getfield 17, 3) := by decide +kernel
theorem dX11_planLong_17 : decode cX11_planLong 17 = .ok (.iload_n 1, 1) := by decide +kernel
theorem dX11_planLong_18 : decode cX11_planLong 18 = .ok (.iaload, 1) := by decide +kernel
theorem dX11_planLong_19 : decode cX11_planLong 19 = .ok (.ireturn, 1) := by decide +kernel
theorem dX11_whyNoPlan_0 : decode cX11_whyNoPlan 0 = .ok (.iconst 0, 1) := by decide +kernel
theorem dX11_whyNoPlan_1 : decode cX11_whyNoPlan 1 = .ok (.istore_n 2, 1) := by decide +kernel
theorem dX11_whyNoPlan_2 : decode cX11_whyNoPlan 2 = .ok (.iload_n 2, 1) := by decide +kernel
theorem dX11_whyNoPlan_3 : decode cX11_whyNoPlan 3 = .ok (.aload_n 0, 1) := by decide +kernel
theorem dX11_whyNoPlan_4 : decode cX11_whyNoPlan 4 = .ok (.iload_n 1, 1) := by decide +kernel
theorem dX11_whyNoPlan_5 : decode cX11_whyNoPlan 5 = .ok (.invokevirtual 459, 3) := by decide +kernel
theorem dX11_whyNoPlan_8 : decode cX11_whyNoPlan 8 = .ok (.if_icmp .ge 33, 3) := by decide +kernel
theorem dX11_whyNoPlan_11 : decode cX11_whyNoPlan 11 = .ok (.aload_n 0, 1) := by decide +kernel
theorem dX11_whyNoPlan_12 : decode cX11_whyNoPlan 12 = .ok (.iload_n 1, 1) := by decide +kernel
theorem dX11_whyNoPlan_13 : decode cX11_whyNoPlan 13 = .ok (.iload_n 2, 1) := by decide +kernel
theorem dX11_whyNoPlan_14 : decode cX11_whyNoPlan 14 = .ok (.invokevirtual 416, 3) := by decide +kernel
theorem dX11_whyNoPlan_17 : decode cX11_whyNoPlan 17 = .ok (.lconst 0, 1) := by decide +kernel
theorem dX11_whyNoPlan_18 : decode cX11_whyNoPlan 18 = .ok (.aload_n 0, 1) := by decide +kernel
theorem dX11_whyNoPlan_19 : decode cX11_whyNoPlan 19 = .ok (.getfield 35, 3) := by decide +kernel
theorem dX11_whyNoPlan_22 : decode cX11_whyNoPlan 22 = .ok (.iconst 1, 1) := by decide +kernel
theorem dX11_whyNoPlan_23 : decode cX11_whyNoPlan 23 = .ok (.iaload, 1) := by decide +kernel
theorem dX11_whyNoPlan_24 : decode cX11_whyNoPlan 24 = .ok (.iconst 1, 1) := by decide +kernel
theorem dX11_whyNoPlan_25 : decode cX11_whyNoPlan 25 = .ok (.isub, 1) := by decide +kernel
theorem dX11_whyNoPlan_26 : decode cX11_whyNoPlan 26 = .ok (.i2l, 1) := by decide +kernel
theorem dX11_whyNoPlan_27 : decode cX11_whyNoPlan 27 = .ok (.invokestatic 129, 3) := by decide +kernel
theorem dX11_whyNoPlan_30 : decode cX11_whyNoPlan 30 = .ok (.ifCond .ne 5, 3) := by decide +kernel
theorem dX11_whyNoPlan_33 : decode cX11_whyNoPlan 33 = .ok (.iconst 2, 1) := by decide +kernel
theorem dX11_whyNoPlan_34 : decode cX11_whyNoPlan 34 = .ok (.ireturn, 1) := by decide +kernel
theorem dX11_whyNoPlan_35 : decode cX11_whyNoPlan 35 = .ok (.iinc 2 1, 3) := by decide +kernel
theorem dX11_whyNoPlan_38 : decode cX11_whyNoPlan 38 = .ok (.goto (-36), 3) := by decide +kernel
theorem dX11_whyNoPlan_41 : decode cX11_whyNoPlan 41 = .ok (.aload_n 0, 1) := by decide +kernel
theorem dX11_whyNoPlan_42 : decode cX11_whyNoPlan 42 = .ok (.iload_n 1, 1) := by decide +kernel
theorem dX11_whyNoPlan_43 : decode cX11_whyNoPlan 43 = .ok (.invokevirtual 459, 3) := by decide +kernel
theorem dX11_whyNoPlan_46 : decode cX11_whyNoPlan 46 = .ok (.bipush 12, 2) := by decide +kernel
theorem dX11_whyNoPlan_48 : decode cX11_whyNoPlan 48 = .ok (.if_icmp .le 5, 3) := by decide +kernel
theorem dX11_whyNoPlan_51 : decode cX11_whyNoPlan 51 = .ok (.iconst 5, 1) := by decide +kernel
theorem dX11_whyNoPlan_52 : decode cX11_whyNoPlan 52 = .ok (.ireturn, 1) := by decide +kernel
theorem dX11_whyNoPlan_53 : decode cX11_whyNoPlan 53 = .ok (.aload_n 0, 1) := by decide +kernel
theorem dX11_whyNoPlan_54 : decode cX11_whyNoPlan 54 = .ok (.iload_n 1, 1) := by decide +kernel
theorem dX11_whyNoPlan_55 : decode cX11_whyNoPlan 55 = .ok (.invokevirtual 345, 3) := by decide +kernel
theorem dX11_whyNoPlan_58 : decode cX11_whyNoPlan 58 = .ok (.istore_n 2, 1) := by decide +kernel
theorem dX11_whyNoPlan_59 : decode cX11_whyNoPlan 59 = .ok (.iconst 0, 1) := by decide +kernel
theorem dX11_whyNoPlan_60 : decode cX11_whyNoPlan 60 = .ok (.istore_n 3, 1) := by decide +kernel
theorem dX11_whyNoPlan_61 : decode cX11_whyNoPlan 61 = .ok (.iload_n 3, 1) := by decide +kernel
theorem dX11_whyNoPlan_62 : decode cX11_whyNoPlan 62 = .ok (.aload_n 0, 1) := by decide +kernel
theorem dX11_whyNoPlan_63 : decode cX11_whyNoPlan 63 = .ok (.iload_n 1, 1) := by decide +kernel
theorem dX11_whyNoPlan_64 : decode cX11_whyNoPlan 64 = .ok (.invokevirtual 459, 3) := by decide +kernel
theorem dX11_whyNoPlan_67 : decode cX11_whyNoPlan 67 = .ok (.if_icmp .ge 38, 3) := by decide +kernel
theorem dX11_whyNoPlan_70 : decode cX11_whyNoPlan 70 = .ok (.aload_n 0, 1) := by decide +kernel
theorem dX11_whyNoPlan_71 : decode cX11_whyNoPlan 71 = .ok (.iload_n 1, 1) := by decide +kernel
theorem dX11_whyNoPlan_72 : decode cX11_whyNoPlan 72 = .ok (.iload_n 3, 1) := by decide +kernel
theorem dX11_whyNoPlan_73 : decode cX11_whyNoPlan 73 = .ok (.invokevirtual 416, 3) := by decide +kernel
theorem dX11_whyNoPlan_76 : decode cX11_whyNoPlan 76 = .ok (.l2i, 1) := by decide +kernel
theorem dX11_whyNoPlan_77 : decode cX11_whyNoPlan 77 = .ok (.istore 4, 2) := by decide +kernel
theorem dX11_whyNoPlan_79 : decode cX11_whyNoPlan 79 = .ok (.aload_n 0, 1) := by decide +kernel
theorem dX11_whyNoPlan_80 : decode cX11_whyNoPlan 80 = .ok (.iload_n 2, 1) := by decide +kernel
theorem dX11_whyNoPlan_81 : decode cX11_whyNoPlan 81 = .ok (.iload 4, 2) := by decide +kernel
theorem dX11_whyNoPlan_83 : decode cX11_whyNoPlan 83 = .ok (.invokevirtual 354, 3) := by decide +kernel
theorem dX11_whyNoPlan_86 : decode cX11_whyNoPlan 86 = .ok (.ifCond .ne 6, 3) := by decide +kernel
theorem dX11_whyNoPlan_89 : decode cX11_whyNoPlan 89 = .ok (.bipush 9, 2) := by decide +kernel
theorem dX11_whyNoPlan_91 : decode cX11_whyNoPlan 91 = .ok (.ireturn, 1) := by decide +kernel
theorem dX11_whyNoPlan_92 : decode cX11_whyNoPlan 92 = .ok (.iload_n 2, 1) := by decide +kernel
theorem dX11_whyNoPlan_93 : decode cX11_whyNoPlan 93 = .ok (.iconst 1, 1) := by decide +kernel
theorem dX11_whyNoPlan_94 : decode cX11_whyNoPlan 94 = .ok (.iload 4, 2) := by decide +kernel
theorem dX11_whyNoPlan_96 : decode cX11_whyNoPlan 96 = .ok (.ishl, 1) := by decide +kernel
theorem dX11_whyNoPlan_97 : decode cX11_whyNoPlan 97 = .ok (.ior, 1) := by decide +kernel
theorem dX11_whyNoPlan_98 : decode cX11_whyNoPlan 98 = .ok (.istore_n 2, 1) := by decide +kernel
theorem dX11_whyNoPlan_99 : decode cX11_whyNoPlan 99 = .ok (.iinc 3 1, 3) := by decide +kernel
theorem dX11_whyNoPlan_102 : decode cX11_whyNoPlan 102 = .ok (.goto (-41), 3) := by decide +kernel
theorem dX11_whyNoPlan_105 : decode cX11_whyNoPlan 105 = .ok (.iconst 0, 1) := by decide +kernel
theorem dX11_whyNoPlan_106 : decode cX11_whyNoPlan 106 = .ok (.ireturn, 1) := by decide +kernel
theorem dX11_begins_0 : decode cX11_begins 0 = .ok (.iconst 0, 1) := by decide +kernel
theorem dX11_begins_1 : decode cX11_begins 1 = .ok (.istore_n 2, 1) := by decide +kernel
theorem dX11_begins_2 : decode cX11_begins 2 = .ok (.iconst 0, 1) := by decide +kernel
theorem dX11_begins_3 : decode cX11_begins 3 = .ok (.istore_n 3, 1) := by decide +kernel
theorem dX11_begins_4 : decode cX11_begins 4 = .ok (.iload_n 3, 1) := by decide +kernel
theorem dX11_begins_5 : decode cX11_begins 5 = .ok (.aload_n 0, 1) := by decide +kernel
theorem dX11_begins_6 : decode cX11_begins 6 = .ok (.getfield 35, 3) := by decide +kernel
theorem dX11_begins_9 : decode cX11_begins 9 = .ok (.iconst 2, 1) := by decide +kernel
theorem dX11_begins_10 : decode cX11_begins 10 = .ok (.iaload, 1) := by decide +kernel
theorem dX11_begins_11 : decode cX11_begins 11 = .ok (.if_icmp .ge 167, 3) := by decide +kernel
theorem dX11_begins_14 : decode cX11_begins 14 = .ok (.aload_n 0, 1) := by decide +kernel
theorem dX11_begins_15 : decode cX11_begins 15 = .ok (.getfield 73, 3) := by decide +kernel
theorem dX11_begins_18 : decode cX11_begins 18 = .ok (.iload_n 3, 1) := by decide +kernel
theorem dX11_begins_19 : decode cX11_begins 19 = .ok (.iaload, 1) := by decide +kernel
theorem dX11_begins_20 : decode cX11_begins 20 = .ok (.aload_n 0, 1) := by decide +kernel
theorem dX11_begins_21 : decode cX11_begins 21 = .ok (.iload_n 3, 1) := by decide +kernel
theorem dX11_begins_22 : decode cX11_begins 22 = .ok (.invokevirtual 459, 3) := by decide +kernel
theorem dX11_begins_25 : decode cX11_begins 25 = .ok (.if_icmp .ge 132, 3) := by decide +kernel
theorem dX11_begins_28 : decode cX11_begins 28 = .ok (.aload_n 0, 1) := by decide +kernel
theorem dX11_begins_29 : decode cX11_begins 29 = .ok (.getfield 70, 3) := by decide +kernel
theorem dX11_begins_32 : decode cX11_begins 32 = .ok (.iload_n 3, 1) := by decide +kernel
theorem dX11_begins_33 : decode cX11_begins 33 = .ok (.iaload, 1) := by decide +kernel
theorem dX11_begins_34 : decode cX11_begins 34 = .ok (.iload_n 1, 1) := by decide +kernel
theorem dX11_begins_35 : decode cX11_begins 35 = .ok (.if_icmp .gt 122, 3) := by decide +kernel
theorem dX11_begins_38 : decode cX11_begins 38 = .ok (.aload_n 0, 1) := by decide +kernel
theorem dX11_begins_39 : decode cX11_begins 39 = .ok (.iload_n 3, 1) := by decide +kernel
theorem dX11_begins_40 : decode cX11_begins 40 = .ok (.aload_n 0, 1) := by decide +kernel
theorem dX11_begins_41 : decode cX11_begins 41 = .ok (.getfield 73, 3) := by decide +kernel
theorem dX11_begins_44 : decode cX11_begins 44 = .ok (.iload_n 3, 1) := by decide +kernel
theorem dX11_begins_45 : decode cX11_begins 45 = .ok (.iaload, 1) := by decide +kernel
theorem dX11_begins_46 : decode cX11_begins 46 = .ok (.invokevirtual 416, 3) := by decide +kernel
theorem dX11_begins_49 : decode cX11_begins 49 = .ok (.l2i, 1) := by decide +kernel
theorem dX11_begins_50 : decode cX11_begins 50 = .ok (.istore 4, 2) := by decide +kernel
theorem dX11_begins_52 : decode cX11_begins 52 = .ok (.aload_n 0, 1) := by decide +kernel
theorem dX11_begins_53 : decode cX11_begins 53 = .ok (.getfield 35, 3) := by decide +kernel
theorem dX11_begins_56 : decode cX11_begins 56 = .ok (.bipush 40, 2) := by decide +kernel
theorem dX11_begins_58 : decode cX11_begins 58 = .ok (.iload 4, 2) := by decide +kernel
theorem dX11_begins_60 : decode cX11_begins 60 = .ok (.iadd, 1) := by decide +kernel
theorem dX11_begins_61 : decode cX11_begins 61 = .ok (.iaload, 1) := by decide +kernel
theorem dX11_begins_62 : decode cX11_begins 62 = .ok (.istore 5, 2) := by decide +kernel
theorem dX11_begins_64 : decode cX11_begins 64 = .ok (.iload 5, 2) := by decide +kernel
theorem dX11_begins_66 : decode cX11_begins 66 = .ok (.ifCond .lt 14, 3) := by decide +kernel
theorem dX11_begins_69 : decode cX11_begins 69 = .ok (.aload_n 0, 1) := by decide +kernel
theorem dX11_begins_70 : decode cX11_begins 70 = .ok (.getfield 85, 3) := by decide +kernel
theorem dX11_begins_73 : decode cX11_begins 73 = .ok (.iload 5, 2) := by decide +kernel
theorem dX11_begins_75 : decode cX11_begins 75 = .ok (.iaload, 1) := by decide +kernel
theorem dX11_begins_76 : decode cX11_begins 76 = .ok (.iload_n 1, 1) := by decide +kernel
theorem dX11_begins_77 : decode cX11_begins 77 = .ok (.if_icmp .gt 80, 3) := by decide +kernel
theorem dX11_begins_80 : decode cX11_begins 80 = .ok (.aload_n 0, 1) := by decide +kernel
theorem dX11_begins_81 : decode cX11_begins 81 = .ok (.getfield 79, 3) := by decide +kernel
theorem dX11_begins_84 : decode cX11_begins 84 = .ok (.bipush 12, 2) := by decide +kernel
theorem dX11_begins_86 : decode cX11_begins 86 = .ok (.iload_n 3, 1) := by decide +kernel
theorem dX11_begins_87 : decode cX11_begins 87 = .ok (.imul, 1) := by decide +kernel
theorem dX11_begins_88 : decode cX11_begins 88 = .ok (.aload_n 0, 1) := by decide +kernel
theorem dX11_begins_89 : decode cX11_begins 89 = .ok (.getfield 73, 3) := by decide +kernel
theorem dX11_begins_92 : decode cX11_begins 92 = .ok (.iload_n 3, 1) := by decide +kernel
theorem dX11_begins_93 : decode cX11_begins 93 = .ok (.iaload, 1) := by decide +kernel
theorem dX11_begins_94 : decode cX11_begins 94 = .ok (.iadd, 1) := by decide +kernel
theorem dX11_begins_95 : decode cX11_begins 95 = .ok (.iload_n 1, 1) := by decide +kernel
theorem dX11_begins_96 : decode cX11_begins 96 = .ok (.iastore, 1) := by decide +kernel
theorem dX11_begins_97 : decode cX11_begins 97 = .ok (.aload_n 0, 1) := by decide +kernel
theorem dX11_begins_98 : decode cX11_begins 98 = .ok (.getfield 76, 3) := by decide +kernel
theorem dX11_begins_101 : decode cX11_begins 101 = .ok (.iload_n 3, 1) := by decide +kernel
theorem dX11_begins_102 : decode cX11_begins 102 = .ok (.dup2, 1) := by decide +kernel
theorem dX11_begins_103 : decode cX11_begins 103 = .ok (.iaload, 1) := by decide +kernel
theorem dX11_begins_104 : decode cX11_begins 104 = .ok (.iload_n 1, 1) := by decide +kernel
theorem dX11_begins_105 : decode cX11_begins 105 = .ok (.aload_n 0, 1) := by decide +kernel
theorem dX11_begins_106 : decode cX11_begins 106 = .ok (.getfield 70, 3) := by decide +kernel
theorem dX11_begins_109 : decode cX11_begins 109 = .ok (.iload_n 3, 1) := by decide +kernel
theorem dX11_begins_110 : decode cX11_begins 110 = .ok (.iaload, 1) := by decide +kernel
theorem dX11_begins_111 : decode cX11_begins 111 = .ok (.isub, 1) := by decide +kernel
theorem dX11_begins_112 : decode cX11_begins 112 = .ok (.iadd, 1) := by decide +kernel
theorem dX11_begins_113 : decode cX11_begins 113 = .ok (.iastore, 1) := by decide +kernel
theorem dX11_begins_114 : decode cX11_begins 114 = .ok (.aload_n 0, 1) := by decide +kernel
theorem dX11_begins_115 : decode cX11_begins 115 = .ok (.getfield 70, 3) := by decide +kernel
theorem dX11_begins_118 : decode cX11_begins 118 = .ok (.iload_n 3, 1) := by decide +kernel
theorem dX11_begins_119 : decode cX11_begins 119 = .ok (.iload_n 1, 1) := by decide +kernel
theorem dX11_begins_120 : decode cX11_begins 120 = .ok (.aload_n 0, 1) := by decide +kernel
theorem dX11_begins_121 : decode cX11_begins 121 = .ok (.iload_n 3, 1) := by decide +kernel
theorem dX11_begins_122 : decode cX11_begins 122 = .ok (.iload 4, 2) := by decide +kernel
theorem dX11_begins_124 : decode cX11_begins 124 = .ok (.invokevirtual 357, 3) := by decide +kernel
theorem dX11_begins_127 : decode cX11_begins 127 = .ok (.iadd, 1) := by decide +kernel
theorem dX11_begins_128 : decode cX11_begins 128 = .ok (.iastore, 1) := by decide +kernel
theorem dX11_begins_129 : decode cX11_begins 129 = .ok (.aload_n 0, 1) := by decide +kernel
theorem dX11_begins_130 : decode cX11_begins 130 = .ok (.getfield 73, 3) := by decide +kernel
theorem dX11_begins_133 : decode cX11_begins 133 = .ok (.iload_n 3, 1) := by decide +kernel
theorem dX11_begins_134 : decode cX11_begins 134 = .ok (.dup2, 1) := by decide +kernel
theorem dX11_begins_135 : decode cX11_begins 135 = .ok (.iaload, 1) := by decide +kernel
theorem dX11_begins_136 : decode cX11_begins 136 = .ok (.iconst 1, 1) := by decide +kernel
theorem dX11_begins_137 : decode cX11_begins 137 = .ok (.iadd, 1) := by decide +kernel
theorem dX11_begins_138 : decode cX11_begins 138 = .ok (.iastore, 1) := by decide +kernel
theorem dX11_begins_139 : decode cX11_begins 139 = .ok (.iload 5, 2) := by decide +kernel
theorem dX11_begins_141 : decode cX11_begins 141 = .ok (.ifCond .lt 16, 3) := by decide +kernel
theorem dX11_begins_144 : decode cX11_begins 144 = .ok (.aload_n 0, 1) := by decide +kernel
theorem dX11_begins_145 : decode cX11_begins 145 = .ok (.getfield 85, 3) := by decide +kernel
theorem dX11_begins_148 : decode cX11_begins 148 = .ok (.iload 5, 2) := by decide +kernel
theorem dX11_begins_150 : decode cX11_begins 150 = .ok (.aload_n 0, 1) := by decide +kernel
theorem dX11_begins_151 : decode cX11_begins 151 = .ok (.getfield 70, 3) := by decide +kernel
theorem dX11_begins_154 : decode cX11_begins 154 = .ok (.iload_n 3, 1) := by decide +kernel
theorem dX11_begins_155 : decode cX11_begins 155 = .ok (.iaload, 1) := by decide +kernel
theorem dX11_begins_156 : decode cX11_begins 156 = .ok (.iastore, 1) := by decide +kernel
theorem dX11_begins_157 : decode cX11_begins 157 = .ok (.iload_n 2, 1) := by decide +kernel
theorem dX11_begins_158 : decode cX11_begins 158 = .ok (.aload_n 0, 1) := by decide +kernel
theorem dX11_begins_159 : decode cX11_begins 159 = .ok (.iload_n 3, 1) := by decide +kernel
theorem dX11_begins_160 : decode cX11_begins 160 = .ok (.invokevirtual 459, 3) := by decide +kernel
theorem dX11_begins_163 : decode cX11_begins 163 = .ok (.aload_n 0, 1) := by decide +kernel
theorem dX11_begins_164 : decode cX11_begins 164 = .ok (.getfield 73, 3) := by decide +kernel
theorem dX11_begins_167 : decode cX11_begins 167 = .ok (.iload_n 3, 1) := by decide +kernel
theorem dX11_begins_168 : decode cX11_begins 168 = .ok (.iaload, 1) := by decide +kernel
theorem dX11_begins_169 : decode cX11_begins 169 = .ok (.isub, 1) := by decide +kernel
theorem dX11_begins_170 : decode cX11_begins 170 = .ok (.iadd, 1) := by decide +kernel
theorem dX11_begins_171 : decode cX11_begins 171 = .ok (.istore_n 2, 1) := by decide +kernel
theorem dX11_begins_172 : decode cX11_begins 172 = .ok (.iinc 3 1, 3) := by decide +kernel
theorem dX11_begins_175 : decode cX11_begins 175 = .ok (.goto (-171), 3) := by decide +kernel
theorem dX11_begins_178 : decode cX11_begins 178 = .ok (.iload_n 2, 1) := by decide +kernel
theorem dX11_begins_179 : decode cX11_begins 179 = .ok (.ireturn, 1) := by decide +kernel
theorem dX11_plans_0 : decode cX11_plans 0 = .ok (.aload_n 0, 1) := by decide +kernel
theorem dX11_plans_1 : decode cX11_plans 1 = .ok (.iconst 0, 1) := by decide +kernel
theorem dX11_plans_2 : decode cX11_plans 2 = .ok (.putfield 94, 3) := by decide +kernel
theorem dX11_plans_5 : decode cX11_plans 5 = .ok (.aload_n 0, 1) := by decide +kernel
theorem dX11_plans_6 : decode cX11_plans 6 = .ok (.iconst 0, 1) := by decide +kernel
theorem dX11_plans_7 : decode cX11_plans 7 = .ok (.putfield 97, 3) := by decide +kernel
theorem dX11_plans_10 : decode cX11_plans 10 = .ok (.iconst 0, 1) := by decide +kernel
theorem dX11_plans_11 : decode cX11_plans 11 = .ok (.istore_n 1, 1) := by decide +kernel
theorem dX11_plans_12 : decode cX11_plans 12 = .ok (.iload_n 1, 1) := by decide +kernel
theorem dX11_plans_13 : decode cX11_plans 13 = .ok (.aload_n 0, 1) := by decide +kernel
theorem dX11_plans_14 : decode cX11_plans 14 = .ok (.getfield 35, 3) := by decide +kernel
theorem dX11_plans_17 : decode cX11_plans 17 = .ok (.iconst 2, 1) := by decide +kernel
theorem dX11_plans_18 : decode cX11_plans 18 = .ok (.iaload, 1) := by decide +kernel
theorem dX11_plans_19 : decode cX11_plans 19 = .ok (.if_icmp .ge 25, 3) := by decide +kernel
theorem dX11_plans_22 : decode cX11_plans 22 = .ok (.aload_n 0, 1) := by decide +kernel
theorem dX11_plans_23 : decode cX11_plans 23 = .ok (.iload_n 1, 1) := by decide +kernel
theorem dX11_plans_24 : decode cX11_plans 24 = .ok (.invokevirtual 462, 3) := by decide +kernel
theorem dX11_plans_27 : decode cX11_plans 27 = .ok (.istore_n 2, 1) := by decide +kernel
theorem dX11_plans_28 : decode cX11_plans 28 = .ok (.iload_n 2, 1) := by decide +kernel
theorem dX11_plans_29 : decode cX11_plans 29 = .ok (.ifCond .le 9, 3) := by decide +kernel
theorem dX11_plans_32 : decode cX11_plans 32 = .ok (.aload_n 0, 1) := by decide +kernel
theorem dX11_plans_33 : decode cX11_plans 33 = .ok (.iload_n 2, 1) := by decide +kernel
theorem dX11_plans_34 : decode cX11_plans 34 = .ok (.invokevirtual 336, 3) := by decide +kernel
theorem dX11_plans_37 : decode cX11_plans 37 = .ok (.ireturn, 1) := by decide +kernel
theorem dX11_plans_38 : decode cX11_plans 38 = .ok (.iinc 1 1, 3) := by decide +kernel
theorem dX11_plans_41 : decode cX11_plans 41 = .ok (.goto (-29), 3) := by decide +kernel
theorem dX11_plans_44 : decode cX11_plans 44 = .ok (.iconst 0, 1) := by decide +kernel
theorem dX11_plans_45 : decode cX11_plans 45 = .ok (.istore_n 1, 1) := by decide +kernel
theorem dX11_plans_46 : decode cX11_plans 46 = .ok (.iload_n 1, 1) := by decide +kernel
theorem dX11_plans_47 : decode cX11_plans 47 = .ok (.iconst 4, 1) := by decide +kernel
theorem dX11_plans_48 : decode cX11_plans 48 = .ok (.if_icmp .ge 37, 3) := by decide +kernel
theorem dX11_plans_51 : decode cX11_plans 51 = .ok (.aload_n 0, 1) := by decide +kernel
theorem dX11_plans_52 : decode cX11_plans 52 = .ok (.getfield 70, 3) := by decide +kernel
theorem dX11_plans_55 : decode cX11_plans 55 = .ok (.iload_n 1, 1) := by decide +kernel
theorem dX11_plans_56 : decode cX11_plans 56 = .ok (.iconst 0, 1) := by decide +kernel
theorem dX11_plans_57 : decode cX11_plans 57 = .ok (.iastore, 1) := by decide +kernel
theorem dX11_plans_58 : decode cX11_plans 58 = .ok (.aload_n 0, 1) := by decide +kernel
theorem dX11_plans_59 : decode cX11_plans 59 = .ok (.getfield 73, 3) := by decide +kernel
theorem dX11_plans_62 : decode cX11_plans 62 = .ok (.iload_n 1, 1) := by decide +kernel
theorem dX11_plans_63 : decode cX11_plans 63 = .ok (.iconst 0, 1) := by decide +kernel
theorem dX11_plans_64 : decode cX11_plans 64 = .ok (.iastore, 1) := by decide +kernel
theorem dX11_plans_65 : decode cX11_plans 65 = .ok (.aload_n 0, 1) := by decide +kernel
theorem dX11_plans_66 : decode cX11_plans 66 = .ok (.getfield 76, 3) := by decide +kernel
theorem dX11_plans_69 : decode cX11_plans 69 = .ok (.iload_n 1, 1) := by decide +kernel
theorem dX11_plans_70 : decode cX11_plans 70 = .ok (.iconst 0, 1) := by decide +kernel
theorem dX11_plans_71 : decode cX11_plans 71 = .ok (.iastore, 1) := by decide +kernel
theorem dX11_plans_72 : decode cX11_plans 72 = .ok (.aload_n 0, 1) := by decide +kernel
theorem dX11_plans_73 : decode cX11_plans 73 = .ok (.getfield 85, 3) := by decide +kernel
theorem dX11_plans_76 : decode cX11_plans 76 = .ok (.iload_n 1, 1) := by decide +kernel
theorem dX11_plans_77 : decode cX11_plans 77 = .ok (.iconst 0, 1) := by decide +kernel
theorem dX11_plans_78 : decode cX11_plans 78 = .ok (.iastore, 1) := by decide +kernel
theorem dX11_plans_79 : decode cX11_plans 79 = .ok (.iinc 1 1, 3) := by decide +kernel
theorem dX11_plans_82 : decode cX11_plans 82 = .ok (.goto (-36), 3) := by decide +kernel
theorem dX11_plans_85 : decode cX11_plans 85 = .ok (.iconst 0, 1) := by decide +kernel
theorem dX11_plans_86 : decode cX11_plans 86 = .ok (.istore_n 1, 1) := by decide +kernel
theorem dX11_plans_87 : decode cX11_plans 87 = .ok (.aload_n 0, 1) := by decide +kernel
theorem dX11_plans_88 : decode cX11_plans 88 = .ok (.iload_n 1, 1) := by decide +kernel
theorem dX11_plans_89 : decode cX11_plans 89 = .ok (.invokevirtual 465, 3) := by decide +kernel
theorem dX11_plans_92 : decode cX11_plans 92 = .ok (.ifCond .le 9, 3) := by decide +kernel
theorem dX11_plans_95 : decode cX11_plans 95 = .ok (.iinc 1 1, 3) := by decide +kernel
theorem dX11_plans_98 : decode cX11_plans 98 = .ok (.goto (-11), 3) := by decide +kernel
theorem dX11_plans_101 : decode cX11_plans 101 = .ok (.iconst 0, 1) := by decide +kernel
theorem dX11_plans_102 : decode cX11_plans 102 = .ok (.istore_n 2, 1) := by decide +kernel
theorem dX11_plans_103 : decode cX11_plans 103 = .ok (.iconst 0, 1) := by decide +kernel
theorem dX11_plans_104 : decode cX11_plans 104 = .ok (.istore_n 3, 1) := by decide +kernel
theorem dX11_plans_105 : decode cX11_plans 105 = .ok (.iload_n 3, 1) := by decide +kernel
theorem dX11_plans_106 : decode cX11_plans 106 = .ok (.aload_n 0, 1) := by decide +kernel
theorem dX11_plans_107 : decode cX11_plans 107 = .ok (.getfield 35, 3) := by decide +kernel
theorem dX11_plans_110 : decode cX11_plans 110 = .ok (.iconst 2, 1) := by decide +kernel
theorem dX11_plans_111 : decode cX11_plans 111 = .ok (.iaload, 1) := by decide +kernel
theorem dX11_plans_112 : decode cX11_plans 112 = .ok (.if_icmp .ge 31, 3) := by decide +kernel
theorem dX11_plans_115 : decode cX11_plans 115 = .ok (.aload_n 0, 1) := by decide +kernel
theorem dX11_plans_116 : decode cX11_plans 116 = .ok (.getfield 82, 3) := by decide +kernel
theorem dX11_plans_119 : decode cX11_plans 119 = .ok (.iload_n 3, 1) := by decide +kernel
theorem dX11_plans_120 : decode cX11_plans 120 = .ok (.aload_n 0, 1) := by decide +kernel
theorem dX11_plans_121 : decode cX11_plans 121 = .ok (.iload_n 3, 1) := by decide +kernel
theorem dX11_plans_122 : decode cX11_plans 122 = .ok (.invokevirtual 459, 3) := by decide +kernel
theorem dX11_plans_125 : decode cX11_plans 125 = .ok (.iastore, 1) := by decide +kernel
theorem dX11_plans_126 : decode cX11_plans 126 = .ok (.iload_n 2, 1) := by decide +kernel
theorem dX11_plans_127 : decode cX11_plans 127 = .ok (.aload_n 0, 1) := by decide +kernel
theorem dX11_plans_128 : decode cX11_plans 128 = .ok (.getfield 70, 3) := by decide +kernel
theorem dX11_plans_131 : decode cX11_plans 131 = .ok (.iload_n 3, 1) := by decide +kernel
theorem dX11_plans_132 : decode cX11_plans 132 = .ok (.iaload, 1) := by decide +kernel
theorem dX11_plans_133 : decode cX11_plans 133 = .ok (.invokestatic 264, 3) := by decide +kernel
theorem dX11_plans_136 : decode cX11_plans 136 = .ok (.istore_n 2, 1) := by decide +kernel
theorem dX11_plans_137 : decode cX11_plans 137 = .ok (.iinc 3 1, 3) := by decide +kernel
theorem dX11_plans_140 : decode cX11_plans 140 = .ok (.goto (-35), 3) := by decide +kernel
theorem dX11_plans_143 : decode cX11_plans 143 = .ok (.aload_n 0, 1) := by decide +kernel
theorem dX11_plans_144 : decode cX11_plans 144 = .ok (.aload_n 0, 1) := by decide +kernel
theorem dX11_plans_145 : decode cX11_plans 145 = .ok (.getfield 35, 3) := by decide +kernel
theorem dX11_plans_148 : decode cX11_plans 148 = .ok (.iconst 2, 1) := by decide +kernel
theorem dX11_plans_149 : decode cX11_plans 149 = .ok (.iaload, 1) := by decide +kernel
theorem dX11_plans_150 : decode cX11_plans 150 = .ok (.putfield 88, 3) := by decide +kernel
theorem dX11_plans_153 : decode cX11_plans 153 = .ok (.iload_n 2, 1) := by decide +kernel
theorem dX11_plans_154 : decode cX11_plans 154 = .ok (.ireturn, 1) := by decide +kernel
theorem dX11_waited_0 : decode cX11_waited 0 = .ok (.aload_n 0, 1) := by decide +kernel
theorem dX11_waited_1 : decode cX11_waited 1 = .ok (.iconst 0, 1) := by decide +kernel
theorem dX11_waited_2 : decode cX11_waited 2 = .ok (.putfield 94, 3) := by decide +kernel
theorem dX11_waited_5 : decode cX11_waited 5 = .ok (.aload_n 0, 1) := by decide +kernel
theorem dX11_waited_6 : decode cX11_waited 6 = .ok (.iconst 0, 1) := by decide +kernel
theorem dX11_waited_7 : decode cX11_waited 7 = .ok (.putfield 97, 3) := by decide +kernel
theorem dX11_waited_10 : decode cX11_waited 10 = .ok (.aload_n 0, 1) := by decide +kernel
theorem dX11_waited_11 : decode cX11_waited 11 = .ok (.iload_n 1, 1) := by decide +kernel
theorem dX11_waited_12 : decode cX11_waited 12 = .ok (.invokevirtual 342, 3) := by decide +kernel
theorem dX11_waited_15 : decode cX11_waited 15 = .ok (.ifCond .ne 9, 3) := by decide +kernel
theorem dX11_waited_18 : decode cX11_waited 18 = .ok (.aload_n 0, 1) := by decide +kernel
theorem dX11_waited_19 : decode cX11_waited 19 = .ok (.iconst 2, 1) := by decide +kernel
theorem dX11_waited_20 : decode cX11_waited 20 = .ok (.invokevirtual 336, 3) := by decide +kernel
theorem dX11_waited_23 : decode cX11_waited 23 = .ok (.ireturn, 1) := by decide +kernel
theorem dX11_waited_24 : decode cX11_waited 24 = .ok (.iload_n 1, 1) := by decide +kernel
theorem dX11_waited_25 : decode cX11_waited 25 = .ok (.aload_n 0, 1) := by decide +kernel
theorem dX11_waited_26 : decode cX11_waited 26 = .ok (.getfield 88, 3) := by decide +kernel
theorem dX11_waited_29 : decode cX11_waited 29 = .ok (.if_icmp .ge 12, 3) := by decide +kernel
theorem dX11_waited_32 : decode cX11_waited 32 = .ok (.aload_n 0, 1) := by decide +kernel
theorem dX11_waited_33 : decode cX11_waited 33 = .ok (.getfield 76, 3) := by decide +kernel
theorem dX11_waited_36 : decode cX11_waited 36 = .ok (.iload_n 1, 1) := by decide +kernel
theorem dX11_waited_37 : decode cX11_waited 37 = .ok (.iaload, 1) := by decide +kernel
theorem dX11_waited_38 : decode cX11_waited 38 = .ok (.goto 9, 3) := by decide +kernel
theorem dX11_waited_41 : decode cX11_waited 41 = .ok (.aload_n 0, 1) := by decide +kernel
theorem dX11_waited_42 : decode cX11_waited 42 = .ok (.bipush 8, 2) := by decide +kernel
theorem dX11_waited_44 : decode cX11_waited 44 = .ok (.invokevirtual 336, 3) := by decide +kernel
theorem dX11_waited_47 : decode cX11_waited 47 = .ok (.ireturn, 1) := by decide +kernel
theorem dX11_began_0 : decode cX11_began 0 = .ok (.aload_n 0, 1) := by decide +kernel
theorem dX11_began_1 : decode cX11_began 1 = .ok (.iconst 0, 1) := by decide +kernel
theorem dX11_began_2 : decode cX11_began 2 = .ok (.putfield 94, 3) := by decide +kernel
theorem dX11_began_5 : decode cX11_began 5 = .ok (.aload_n 0, 1) := by decide +kernel
theorem dX11_began_6 : decode cX11_began 6 = .ok (.iconst 0, 1) := by decide +kernel
theorem dX11_began_7 : decode cX11_began 7 = .ok (.putfield 97, 3) := by decide +kernel
theorem dX11_began_10 : decode cX11_began 10 = .ok (.aload_n 0, 1) := by decide +kernel
theorem dX11_began_11 : decode cX11_began 11 = .ok (.iload_n 1, 1) := by decide +kernel
theorem dX11_began_12 : decode cX11_began 12 = .ok (.invokevirtual 342, 3) := by decide +kernel
theorem dX11_began_15 : decode cX11_began 15 = .ok (.ifCond .ne 9, 3) := by decide +kernel
theorem dX11_began_18 : decode cX11_began 18 = .ok (.aload_n 0, 1) := by decide +kernel
theorem dX11_began_19 : decode cX11_began 19 = .ok (.iconst 2, 1) := by decide +kernel
theorem dX11_began_20 : decode cX11_began 20 = .ok (.invokevirtual 336, 3) := by decide +kernel
theorem dX11_began_23 : decode cX11_began 23 = .ok (.ireturn, 1) := by decide +kernel
theorem dX11_began_24 : decode cX11_began 24 = .ok (.iload_n 1, 1) := by decide +kernel
theorem dX11_began_25 : decode cX11_began 25 = .ok (.aload_n 0, 1) := by decide +kernel
theorem dX11_began_26 : decode cX11_began 26 = .ok (.getfield 88, 3) := by decide +kernel
theorem dX11_began_29 : decode cX11_began 29 = .ok (.if_icmp .ge 35, 3) := by decide +kernel
theorem dX11_began_32 : decode cX11_began 32 = .ok (.iload_n 2, 1) := by decide +kernel
theorem dX11_began_33 : decode cX11_began 33 = .ok (.i2l, 1) := by decide +kernel
theorem dX11_began_34 : decode cX11_began 34 = .ok (.lconst 0, 1) := by decide +kernel
theorem dX11_began_35 : decode cX11_began 35 = .ok (.aload_n 0, 1) := by decide +kernel
theorem dX11_began_36 : decode cX11_began 36 = .ok (.getfield 82, 3) := by decide +kernel
theorem dX11_began_39 : decode cX11_began 39 = .ok (.iload_n 1, 1) := by decide +kernel
theorem dX11_began_40 : decode cX11_began 40 = .ok (.iaload, 1) := by decide +kernel
theorem dX11_began_41 : decode cX11_began 41 = .ok (.iconst 1, 1) := by decide +kernel
theorem dX11_began_42 : decode cX11_began 42 = .ok (.isub, 1) := by decide +kernel
theorem dX11_began_43 : decode cX11_began 43 = .ok (.i2l, 1) := by decide +kernel
theorem dX11_began_44 : decode cX11_began 44 = .ok (.invokestatic 129, 3) := by decide +kernel
theorem dX11_began_47 : decode cX11_began 47 = .ok (.ifCond .eq 17, 3) := by decide +kernel
theorem dX11_began_50 : decode cX11_began 50 = .ok (.aload_n 0, 1) := by decide +kernel
theorem dX11_began_51 : decode cX11_began 51 = .ok (.getfield 79, 3) := by decide +kernel
theorem dX11_began_54 : decode cX11_began 54 = .ok (.bipush 12, 2) := by decide +kernel
theorem dX11_began_56 : decode cX11_began 56 = .ok (.iload_n 1, 1) := by decide +kernel
theorem dX11_began_57 : decode cX11_began 57 = .ok (.imul, 1) := by decide +kernel
theorem dX11_began_58 : decode cX11_began 58 = .ok (.iload_n 2, 1) := by decide +kernel
theorem dX11_began_59 : decode cX11_began 59 = .ok (.iadd, 1) := by decide +kernel
theorem dX11_began_60 : decode cX11_began 60 = .ok (.iaload, 1) := by decide +kernel
theorem dX11_began_61 : decode cX11_began 61 = .ok (.goto 9, 3) := by decide +kernel
theorem dX11_began_64 : decode cX11_began 64 = .ok (.aload_n 0, 1) := by decide +kernel
theorem dX11_began_65 : decode cX11_began 65 = .ok (.bipush 8, 2) := by decide +kernel
theorem dX11_began_67 : decode cX11_began 67 = .ok (.invokevirtual 336, 3) := by decide +kernel
theorem dX11_began_70 : decode cX11_began 70 = .ok (.ireturn, 1) := by decide +kernel
theorem dX11_draw_0 : decode cX11_draw 0 = .ok (.aload_n 0, 1) := by decide +kernel
theorem dX11_draw_1 : decode cX11_draw 1 = .ok (.aload_n 0, 1) := by decide +kernel
theorem dX11_draw_2 : decode cX11_draw 2 = .ok (.getfield 468, 3) := by decide +kernel
theorem dX11_draw_5 : decode cX11_draw 5 = .ok (.sipush 2887, 3) := by decide +kernel
theorem dX11_draw_8 : decode cX11_draw 8 = .ok (.imul, 1) := by decide +kernel
theorem dX11_draw_9 : decode cX11_draw 9 = .ok (.sipush 10477, 3) := by decide +kernel
theorem dX11_draw_12 : decode cX11_draw 12 = .ok (.iadd, 1) := by decide +kernel
theorem dX11_draw_13 : decode cX11_draw 13 = .ok (.ldc_w 471, 3) := by decide +kernel
theorem dX11_draw_16 : decode cX11_draw 16 = .ok (.irem, 1) := by decide +kernel
theorem dX11_draw_17 : decode cX11_draw 17 = .ok (.putfield 468, 3) := by decide +kernel
theorem dX11_draw_20 : decode cX11_draw 20 = .ok (.aload_n 0, 1) := by decide +kernel
theorem dX11_draw_21 : decode cX11_draw 21 = .ok (.getfield 468, 3) := by decide +kernel
theorem dX11_draw_24 : decode cX11_draw 24 = .ok (.bipush 8, 2) := by decide +kernel
theorem dX11_draw_26 : decode cX11_draw 26 = .ok (.idiv, 1) := by decide +kernel
theorem dX11_draw_27 : decode cX11_draw 27 = .ok (.iload_n 1, 1) := by decide +kernel
theorem dX11_draw_28 : decode cX11_draw 28 = .ok (.irem, 1) := by decide +kernel
theorem dX11_draw_29 : decode cX11_draw 29 = .ok (.ireturn, 1) := by decide +kernel
theorem dX11_learnsOne_0 : decode cX11_learnsOne 0 = .ok (.iload_n 2, 1) := by decide +kernel
theorem dX11_learnsOne_1 : decode cX11_learnsOne 1 = .ok (.ifCond .lt 12, 3) := by decide +kernel
theorem dX11_learnsOne_4 : decode cX11_learnsOne 4 = .ok (.aload_n 0, 1) := by decide +kernel
theorem dX11_learnsOne_5 : decode cX11_learnsOne 5 = .ok (.iload_n 1, 1) := by decide +kernel
theorem dX11_learnsOne_6 : decode cX11_learnsOne 6 = .ok (.iload_n 2, 1) := by decide +kernel
theorem dX11_learnsOne_7 : decode cX11_learnsOne 7 = .ok (.invokevirtual 360, 3) := by decide +kernel
theorem dX11_learnsOne_10 : decode cX11_learnsOne 10 = .ok (.ifCond .le 5, 3) := by decide +kernel
theorem dX11_learnsOne_13 : decode cX11_learnsOne 13 = .ok (.iconst 0, 1) := by decide +kernel
theorem dX11_learnsOne_14 : decode cX11_learnsOne 14 = .ok (.ireturn, 1) := by decide +kernel
theorem dX11_learnsOne_15 : decode cX11_learnsOne 15 = .ok (.aload_n 0, 1) := by decide +kernel
theorem dX11_learnsOne_16 : decode cX11_learnsOne 16 = .ok (.iload_n 1, 1) := by decide +kernel
theorem dX11_learnsOne_17 : decode cX11_learnsOne 17 = .ok (.iload_n 2, 1) := by decide +kernel
theorem dX11_learnsOne_18 : decode cX11_learnsOne 18 = .ok (.invokevirtual 363, 3) := by decide +kernel
theorem dX11_learnsOne_21 : decode cX11_learnsOne 21 = .ok (.aload_n 0, 1) := by decide +kernel
theorem dX11_learnsOne_22 : decode cX11_learnsOne 22 = .ok (.dup, 1) := by decide +kernel
theorem dX11_learnsOne_23 : decode cX11_learnsOne 23 = .ok (.getfield 472, 3) := by decide +kernel
theorem dX11_learnsOne_26 : decode cX11_learnsOne 26 = .ok (.iconst 1, 1) := by decide +kernel
theorem dX11_learnsOne_27 : decode cX11_learnsOne 27 = .ok (.iadd, 1) := by decide +kernel
theorem dX11_learnsOne_28 : decode cX11_learnsOne 28 = .ok (.putfield 472, 3) := by decide +kernel
theorem dX11_learnsOne_31 : decode cX11_learnsOne 31 = .ok (.iconst 1, 1) := by decide +kernel
theorem dX11_learnsOne_32 : decode cX11_learnsOne 32 = .ok (.ireturn, 1) := by decide +kernel
theorem dX11_losesOne_0 : decode cX11_losesOne 0 = .ok (.iload_n 2, 1) := by decide +kernel
theorem dX11_losesOne_1 : decode cX11_losesOne 1 = .ok (.aload_n 0, 1) := by decide +kernel
theorem dX11_losesOne_2 : decode cX11_losesOne 2 = .ok (.iload_n 1, 1) := by decide +kernel
theorem dX11_losesOne_3 : decode cX11_losesOne 3 = .ok (.invokevirtual 333, 3) := by decide +kernel
theorem dX11_losesOne_6 : decode cX11_losesOne 6 = .ok (.if_icmp .lt 5, 3) := by decide +kernel
theorem dX11_losesOne_9 : decode cX11_losesOne 9 = .ok (.iconst 0, 1) := by decide +kernel
theorem dX11_losesOne_10 : decode cX11_losesOne 10 = .ok (.ireturn, 1) := by decide +kernel
theorem dX11_losesOne_11 : decode cX11_losesOne 11 = .ok (.aload_n 0, 1) := by decide +kernel
theorem dX11_losesOne_12 : decode cX11_losesOne 12 = .ok (.iload_n 1, 1) := by decide +kernel
theorem dX11_losesOne_13 : decode cX11_losesOne 13 = .ok (.iload_n 2, 1) := by decide +kernel
theorem dX11_losesOne_14 : decode cX11_losesOne 14 = .ok (.invokevirtual 366, 3) := by decide +kernel
theorem dX11_losesOne_17 : decode cX11_losesOne 17 = .ok (.pop, 1) := by decide +kernel
theorem dX11_losesOne_18 : decode cX11_losesOne 18 = .ok (.aload_n 0, 1) := by decide +kernel
theorem dX11_losesOne_19 : decode cX11_losesOne 19 = .ok (.dup, 1) := by decide +kernel
theorem dX11_losesOne_20 : decode cX11_losesOne 20 = .ok (.getfield 475, 3) := by decide +kernel
theorem dX11_losesOne_23 : decode cX11_losesOne 23 = .ok (.iconst 1, 1) := by decide +kernel
theorem dX11_losesOne_24 : decode cX11_losesOne 24 = .ok (.iadd, 1) := by decide +kernel
theorem dX11_losesOne_25 : decode cX11_losesOne 25 = .ok (.putfield 475, 3) := by decide +kernel
theorem dX11_losesOne_28 : decode cX11_losesOne 28 = .ok (.iconst 1, 1) := by decide +kernel
theorem dX11_losesOne_29 : decode cX11_losesOne 29 = .ok (.ireturn, 1) := by decide +kernel
theorem dX11_fates_0 : decode cX11_fates 0 = .ok (.aload_n 0, 1) := by decide +kernel
theorem dX11_fates_1 : decode cX11_fates 1 = .ok (.bipush 16, 2) := by decide +kernel
theorem dX11_fates_3 : decode cX11_fates 3 = .ok (.invokevirtual 478, 3) := by decide +kernel
theorem dX11_fates_6 : decode cX11_fates 6 = .ok (.istore_n 2, 1) := by decide +kernel
theorem dX11_fates_7 : decode cX11_fates 7 = .ok (.iload_n 2, 1) := by decide +kernel
theorem dX11_fates_8 : decode cX11_fates 8 = .ok (.bipush 8, 2) := by decide +kernel
theorem dX11_fates_10 : decode cX11_fates 10 = .ok (.if_icmp .ge 14, 3) := by decide +kernel
theorem dX11_fates_13 : decode cX11_fates 13 = .ok (.aload_n 0, 1) := by decide +kernel
theorem dX11_fates_14 : decode cX11_fates 14 = .ok (.iload_n 1, 1) := by decide +kernel
theorem dX11_fates_15 : decode cX11_fates 15 = .ok (.aload_n 0, 1) := by decide +kernel
theorem dX11_fates_16 : decode cX11_fates 16 = .ok (.iload_n 1, 1) := by decide +kernel
theorem dX11_fates_17 : decode cX11_fates 17 = .ok (.invokevirtual 402, 3) := by decide +kernel
theorem dX11_fates_20 : decode cX11_fates 20 = .ok (.invokevirtual 481, 3) := by decide +kernel
theorem dX11_fates_23 : decode cX11_fates 23 = .ok (.ireturn, 1) := by decide +kernel
theorem dX11_fates_24 : decode cX11_fates 24 = .ok (.iload_n 2, 1) := by decide +kernel
theorem dX11_fates_25 : decode cX11_fates 25 = .ok (.bipush 14, 2) := by decide +kernel
theorem dX11_fates_27 : decode cX11_fates 27 = .ok (.if_icmp .lt 34, 3) := by decide +kernel
theorem dX11_fates_30 : decode cX11_fates 30 = .ok (.aload_n 0, 1) := by decide +kernel
theorem dX11_fates_31 : decode cX11_fates 31 = .ok (.iload_n 1, 1) := by decide +kernel
theorem dX11_fates_32 : decode cX11_fates 32 = .ok (.invokevirtual 333, 3) := by decide +kernel
theorem dX11_fates_35 : decode cX11_fates 35 = .ok (.ifCond .le 24, 3) := by decide +kernel
theorem dX11_fates_38 : decode cX11_fates 38 = .ok (.aload_n 0, 1) := by decide +kernel
theorem dX11_fates_39 : decode cX11_fates 39 = .ok (.iload_n 1, 1) := by decide +kernel
theorem dX11_fates_40 : decode cX11_fates 40 = .ok (.aload_n 0, 1) := by decide +kernel
theorem dX11_fates_41 : decode cX11_fates 41 = .ok (.aload_n 0, 1) := by decide +kernel
theorem dX11_fates_42 : decode cX11_fates 42 = .ok (.iload_n 1, 1) := by decide +kernel
theorem dX11_fates_43 : decode cX11_fates 43 = .ok (.invokevirtual 333, 3) := by decide +kernel
theorem dX11_fates_46 : decode cX11_fates 46 = .ok (.invokevirtual 478, 3) := by decide +kernel
theorem dX11_fates_49 : decode cX11_fates 49 = .ok (.invokevirtual 484, 3) := by decide +kernel
theorem dX11_fates_52 : decode cX11_fates 52 = .ok (.ifCond .eq 7, 3) := by decide +kernel
theorem dX11_fates_55 : decode cX11_fates 55 = .ok (.iconst 1, 1) := by decide +kernel
theorem dX11_fates_56 : decode cX11_fates 56 = .ok (.goto 4, 3) := by decide +kernel
theorem dX11_fates_59 : decode cX11_fates 59 = .ok (.iconst 0, 1) := by decide +kernel
theorem dX11_fates_60 : decode cX11_fates 60 = .ok (.ireturn, 1) := by decide +kernel
theorem dX11_fates_61 : decode cX11_fates 61 = .ok (.aload_n 0, 1) := by decide +kernel
theorem dX11_fates_62 : decode cX11_fates 62 = .ok (.iload_n 1, 1) := by decide +kernel
theorem dX11_fates_63 : decode cX11_fates 63 = .ok (.iconst 1, 1) := by decide +kernel
theorem dX11_fates_64 : decode cX11_fates 64 = .ok (.invokevirtual 377, 3) := by decide +kernel
theorem dX11_fates_67 : decode cX11_fates 67 = .ok (.istore_n 3, 1) := by decide +kernel
theorem dX11_fates_68 : decode cX11_fates 68 = .ok (.iload_n 3, 1) := by decide +kernel
theorem dX11_fates_69 : decode cX11_fates 69 = .ok (.ifCond .ne 5, 3) := by decide +kernel
theorem dX11_fates_72 : decode cX11_fates 72 = .ok (.iconst 0, 1) := by decide +kernel
theorem dX11_fates_73 : decode cX11_fates 73 = .ok (.ireturn, 1) := by decide +kernel
theorem dX11_fates_74 : decode cX11_fates 74 = .ok (.aload_n 0, 1) := by decide +kernel
theorem dX11_fates_75 : decode cX11_fates 75 = .ok (.iload_n 3, 1) := by decide +kernel
theorem dX11_fates_76 : decode cX11_fates 76 = .ok (.invokestatic 381, 3) := by decide +kernel
theorem dX11_fates_79 : decode cX11_fates 79 = .ok (.invokevirtual 478, 3) := by decide +kernel
theorem dX11_fates_82 : decode cX11_fates 82 = .ok (.istore 4, 2) := by decide +kernel
theorem dX11_fates_84 : decode cX11_fates 84 = .ok (.iconst 0, 1) := by decide +kernel
theorem dX11_fates_85 : decode cX11_fates 85 = .ok (.istore 5, 2) := by decide +kernel
theorem dX11_fates_87 : decode cX11_fates 87 = .ok (.iload_n 3, 1) := by decide +kernel
theorem dX11_fates_88 : decode cX11_fates 88 = .ok (.iload 5, 2) := by decide +kernel
theorem dX11_fates_90 : decode cX11_fates 90 = .ok (.invokestatic 277, 3) := by decide +kernel
theorem dX11_fates_93 : decode cX11_fates 93 = .ok (.ifCond .eq 8, 3) := by decide +kernel
theorem dX11_fates_96 : decode cX11_fates 96 = .ok (.iload 4, 2) := by decide +kernel
theorem dX11_fates_98 : decode cX11_fates 98 = .ok (.ifCond .le 28, 3) := by decide +kernel
theorem dX11_fates_101 : decode cX11_fates 101 = .ok (.iload 4, 2) := by decide +kernel
theorem dX11_fates_103 : decode cX11_fates 103 = .ok (.iload_n 3, 1) := by decide +kernel
theorem dX11_fates_104 : decode cX11_fates 104 = .ok (.iload 5, 2) := by decide +kernel
theorem dX11_fates_106 : decode cX11_fates 106 = .ok (.invokestatic 277, 3) := by decide +kernel
theorem dX11_fates_109 : decode cX11_fates 109 = .ok (.ifCond .eq 7, 3) := by decide +kernel
theorem dX11_fates_112 : decode cX11_fates 112 = .ok (.iconst 1, 1) := by decide +kernel
theorem dX11_fates_113 : decode cX11_fates 113 = .ok (.goto 4, 3) := by decide +kernel
theorem dX11_fates_116 : decode cX11_fates 116 = .ok (.iconst 0, 1) := by decide +kernel
theorem dX11_fates_117 : decode cX11_fates 117 = .ok (.isub, 1) := by decide +kernel
theorem dX11_fates_118 : decode cX11_fates 118 = .ok (.istore 4, 2) := by decide +kernel
theorem dX11_fates_120 : decode cX11_fates 120 = .ok (.iinc 5 1, 3) := by decide +kernel
theorem dX11_fates_123 : decode cX11_fates 123 = .ok (.goto (-36), 3) := by decide +kernel
theorem dX11_fates_126 : decode cX11_fates 126 = .ok (.aload_n 0, 1) := by decide +kernel
theorem dX11_fates_127 : decode cX11_fates 127 = .ok (.iload_n 1, 1) := by decide +kernel
theorem dX11_fates_128 : decode cX11_fates 128 = .ok (.iload 5, 2) := by decide +kernel
theorem dX11_fates_130 : decode cX11_fates 130 = .ok (.invokevirtual 481, 3) := by decide +kernel
theorem dX11_fates_133 : decode cX11_fates 133 = .ok (.ireturn, 1) := by decide +kernel
theorem dX11_does_0 : decode cX11_does 0 = .ok (.aload_n 0, 1) := by decide +kernel
theorem dX11_does_1 : decode cX11_does 1 = .ok (.getfield 35, 3) := by decide +kernel
theorem dX11_does_4 : decode cX11_does 4 = .ok (.iload_n 1, 1) := by decide +kernel
theorem dX11_does_5 : decode cX11_does 5 = .ok (.iaload, 1) := by decide +kernel
theorem dX11_does_6 : decode cX11_does 6 = .ok (.istore_n 2, 1) := by decide +kernel
theorem dX11_does_7 : decode cX11_does 7 = .ok (.aload_n 0, 1) := by decide +kernel
theorem dX11_does_8 : decode cX11_does 8 = .ok (.getfield 35, 3) := by decide +kernel
theorem dX11_does_11 : decode cX11_does 11 = .ok (.iload_n 1, 1) := by decide +kernel
theorem dX11_does_12 : decode cX11_does 12 = .ok (.iconst 1, 1) := by decide +kernel
theorem dX11_does_13 : decode cX11_does 13 = .ok (.iadd, 1) := by decide +kernel
theorem dX11_does_14 : decode cX11_does 14 = .ok (.iaload, 1) := by decide +kernel
theorem dX11_does_15 : decode cX11_does 15 = .ok (.istore_n 3, 1) := by decide +kernel
theorem dX11_does_16 : decode cX11_does 16 = .ok (.iload_n 2, 1) := by decide +kernel
theorem dX11_does_17 : decode cX11_does 17 = .ok (.ifCond .ne 17, 3) := by decide +kernel
theorem dX11_does_20 : decode cX11_does 20 = .ok (.aload_n 0, 1) := by decide +kernel
theorem dX11_does_21 : decode cX11_does 21 = .ok (.iload_n 3, 1) := by decide +kernel
theorem dX11_does_22 : decode cX11_does 22 = .ok (.aload_n 0, 1) := by decide +kernel
theorem dX11_does_23 : decode cX11_does 23 = .ok (.getfield 35, 3) := by decide +kernel
theorem dX11_does_26 : decode cX11_does 26 = .ok (.iload_n 1, 1) := by decide +kernel
theorem dX11_does_27 : decode cX11_does 27 = .ok (.iconst 2, 1) := by decide +kernel
theorem dX11_does_28 : decode cX11_does 28 = .ok (.iadd, 1) := by decide +kernel
theorem dX11_does_29 : decode cX11_does 29 = .ok (.iaload, 1) := by decide +kernel
theorem dX11_does_30 : decode cX11_does 30 = .ok (.invokevirtual 481, 3) := by decide +kernel
theorem dX11_does_33 : decode cX11_does 33 = .ok (.ireturn, 1) := by decide +kernel
theorem dX11_does_34 : decode cX11_does 34 = .ok (.iload_n 2, 1) := by decide +kernel
theorem dX11_does_35 : decode cX11_does 35 = .ok (.iconst 1, 1) := by decide +kernel
theorem dX11_does_36 : decode cX11_does 36 = .ok (.if_icmp .ne 17, 3) := by decide +kernel
theorem dX11_does_39 : decode cX11_does 39 = .ok (.aload_n 0, 1) := by decide +kernel
theorem dX11_does_40 : decode cX11_does 40 = .ok (.iload_n 3, 1) := by decide +kernel
theorem dX11_does_41 : decode cX11_does 41 = .ok (.aload_n 0, 1) := by decide +kernel
theorem dX11_does_42 : decode cX11_does 42 = .ok (.getfield 35, 3) := by decide +kernel
theorem dX11_does_45 : decode cX11_does 45 = .ok (.iload_n 1, 1) := by decide +kernel
theorem dX11_does_46 : decode cX11_does 46 = .ok (.iconst 2, 1) := by decide +kernel
theorem dX11_does_47 : decode cX11_does 47 = .ok (.iadd, 1) := by decide +kernel
theorem dX11_does_48 : decode cX11_does 48 = .ok (.iaload, 1) := by decide +kernel
theorem dX11_does_49 : decode cX11_does 49 = .ok (.invokevirtual 484, 3) := by decide +kernel
theorem dX11_does_52 : decode cX11_does 52 = .ok (.ireturn, 1) := by decide +kernel
theorem dX11_does_53 : decode cX11_does 53 = .ok (.iload_n 2, 1) := by decide +kernel
theorem dX11_does_54 : decode cX11_does 54 = .ok (.iconst 2, 1) := by decide +kernel
theorem dX11_does_55 : decode cX11_does 55 = .ok (.if_icmp .ne 9, 3) := by decide +kernel
theorem dX11_does_58 : decode cX11_does 58 = .ok (.aload_n 0, 1) := by decide +kernel
theorem dX11_does_59 : decode cX11_does 59 = .ok (.iload_n 3, 1) := by decide +kernel
theorem dX11_does_60 : decode cX11_does 60 = .ok (.invokevirtual 487, 3) := by decide +kernel
theorem dX11_does_63 : decode cX11_does 63 = .ok (.ireturn, 1) := by decide +kernel
theorem dX11_does_64 : decode cX11_does 64 = .ok (.iload_n 2, 1) := by decide +kernel
theorem dX11_does_65 : decode cX11_does 65 = .ok (.iconst 3, 1) := by decide +kernel
theorem dX11_does_66 : decode cX11_does 66 = .ok (.if_icmp .eq 17, 3) := by decide +kernel
theorem dX11_does_69 : decode cX11_does 69 = .ok (.aload_n 0, 1) := by decide +kernel
theorem dX11_does_70 : decode cX11_does 70 = .ok (.iload_n 3, 1) := by decide +kernel
theorem dX11_does_71 : decode cX11_does 71 = .ok (.aload_n 0, 1) := by decide +kernel
theorem dX11_does_72 : decode cX11_does 72 = .ok (.getfield 35, 3) := by decide +kernel
theorem dX11_does_75 : decode cX11_does 75 = .ok (.iload_n 1, 1) := by decide +kernel
theorem dX11_does_76 : decode cX11_does 76 = .ok (.iconst 2, 1) := by decide +kernel
theorem dX11_does_77 : decode cX11_does 77 = .ok (.iadd, 1) := by decide +kernel
theorem dX11_does_78 : decode cX11_does 78 = .ok (.iaload, 1) := by decide +kernel
theorem dX11_does_79 : decode cX11_does 79 = .ok (.invokevirtual 371, 3) := by decide +kernel
theorem dX11_does_82 : decode cX11_does 82 = .ok (.ireturn, 1) := by decide +kernel
theorem dX11_does_83 : decode cX11_does 83 = .ok (.aload_n 0, 1) := by decide +kernel
theorem dX11_does_84 : decode cX11_does 84 = .ok (.getfield 35, 3) := by decide +kernel
theorem dX11_does_87 : decode cX11_does 87 = .ok (.bipush 72, 2) := by decide +kernel
theorem dX11_does_89 : decode cX11_does 89 = .ok (.iload_n 3, 1) := by decide +kernel
theorem dX11_does_90 : decode cX11_does 90 = .ok (.iadd, 1) := by decide +kernel
theorem dX11_does_91 : decode cX11_does 91 = .ok (.dup2, 1) := by decide +kernel
theorem dX11_does_92 : decode cX11_does 92 = .ok (.iaload, 1) := by decide +kernel
theorem dX11_does_93 : decode cX11_does 93 = .ok (.aload_n 0, 1) := by decide +kernel
theorem dX11_does_94 : decode cX11_does 94 = .ok (.getfield 35, 3) := by decide +kernel
theorem dX11_does_97 : decode cX11_does 97 = .ok (.iload_n 1, 1) := by decide +kernel
theorem dX11_does_98 : decode cX11_does 98 = .ok (.iconst 2, 1) := by decide +kernel
theorem dX11_does_99 : decode cX11_does 99 = .ok (.iadd, 1) := by decide +kernel
theorem dX11_does_100 : decode cX11_does 100 = .ok (.iaload, 1) := by decide +kernel
theorem dX11_does_101 : decode cX11_does 101 = .ok (.iadd, 1) := by decide +kernel
theorem dX11_does_102 : decode cX11_does 102 = .ok (.iastore, 1) := by decide +kernel
theorem dX11_does_103 : decode cX11_does 103 = .ok (.iconst 1, 1) := by decide +kernel
theorem dX11_does_104 : decode cX11_does 104 = .ok (.ireturn, 1) := by decide +kernel
theorem dX11_isSo_0 : decode cX11_isSo 0 = .ok (.aload_n 0, 1) := by decide +kernel
theorem dX11_isSo_1 : decode cX11_isSo 1 = .ok (.getfield 35, 3) := by decide +kernel
theorem dX11_isSo_4 : decode cX11_isSo 4 = .ok (.iload_n 1, 1) := by decide +kernel
theorem dX11_isSo_5 : decode cX11_isSo 5 = .ok (.bipush 6, 2) := by decide +kernel
theorem dX11_isSo_7 : decode cX11_isSo 7 = .ok (.iadd, 1) := by decide +kernel
theorem dX11_isSo_8 : decode cX11_isSo 8 = .ok (.iaload, 1) := by decide +kernel
theorem dX11_isSo_9 : decode cX11_isSo 9 = .ok (.istore_n 2, 1) := by decide +kernel
theorem dX11_isSo_10 : decode cX11_isSo 10 = .ok (.aload_n 0, 1) := by decide +kernel
theorem dX11_isSo_11 : decode cX11_isSo 11 = .ok (.getfield 35, 3) := by decide +kernel
theorem dX11_isSo_14 : decode cX11_isSo 14 = .ok (.iload_n 1, 1) := by decide +kernel
theorem dX11_isSo_15 : decode cX11_isSo 15 = .ok (.iconst 1, 1) := by decide +kernel
theorem dX11_isSo_16 : decode cX11_isSo 16 = .ok (.iadd, 1) := by decide +kernel
theorem dX11_isSo_17 : decode cX11_isSo 17 = .ok (.iaload, 1) := by decide +kernel
theorem dX11_isSo_18 : decode cX11_isSo 18 = .ok (.istore_n 3, 1) := by decide +kernel
theorem dX11_isSo_19 : decode cX11_isSo 19 = .ok (.iload_n 2, 1) := by decide +kernel
theorem dX11_isSo_20 : decode cX11_isSo 20 = .ok (.iconst 1, 1) := by decide +kernel
theorem dX11_isSo_21 : decode cX11_isSo 21 = .ok (.if_icmp .ne 10, 3) := by decide +kernel
theorem dX11_isSo_24 : decode cX11_isSo 24 = .ok (.aload_n 0, 1) := by decide +kernel
theorem dX11_isSo_25 : decode cX11_isSo 25 = .ok (.iload_n 3, 1) := by decide +kernel
theorem dX11_isSo_26 : decode cX11_isSo 26 = .ok (.iconst 0, 1) := by decide +kernel
theorem dX11_isSo_27 : decode cX11_isSo 27 = .ok (.invokevirtual 405, 3) := by decide +kernel
theorem dX11_isSo_30 : decode cX11_isSo 30 = .ok (.ireturn, 1) := by decide +kernel
theorem dX11_isSo_31 : decode cX11_isSo 31 = .ok (.iload_n 2, 1) := by decide +kernel
theorem dX11_isSo_32 : decode cX11_isSo 32 = .ok (.iconst 2, 1) := by decide +kernel
theorem dX11_isSo_33 : decode cX11_isSo 33 = .ok (.if_icmp .ne 20, 3) := by decide +kernel
theorem dX11_isSo_36 : decode cX11_isSo 36 = .ok (.aload_n 0, 1) := by decide +kernel
theorem dX11_isSo_37 : decode cX11_isSo 37 = .ok (.iload_n 3, 1) := by decide +kernel
theorem dX11_isSo_38 : decode cX11_isSo 38 = .ok (.invokevirtual 345, 3) := by decide +kernel
theorem dX11_isSo_41 : decode cX11_isSo 41 = .ok (.aload_n 0, 1) := by decide +kernel
theorem dX11_isSo_42 : decode cX11_isSo 42 = .ok (.getfield 35, 3) := by decide +kernel
theorem dX11_isSo_45 : decode cX11_isSo 45 = .ok (.iload_n 1, 1) := by decide +kernel
theorem dX11_isSo_46 : decode cX11_isSo 46 = .ok (.iconst 2, 1) := by decide +kernel
theorem dX11_isSo_47 : decode cX11_isSo 47 = .ok (.iadd, 1) := by decide +kernel
theorem dX11_isSo_48 : decode cX11_isSo 48 = .ok (.iaload, 1) := by decide +kernel
theorem dX11_isSo_49 : decode cX11_isSo 49 = .ok (.invokestatic 277, 3) := by decide +kernel
theorem dX11_isSo_52 : decode cX11_isSo 52 = .ok (.ireturn, 1) := by decide +kernel
theorem dX11_isSo_53 : decode cX11_isSo 53 = .ok (.aload_n 0, 1) := by decide +kernel
theorem dX11_isSo_54 : decode cX11_isSo 54 = .ok (.iload_n 3, 1) := by decide +kernel
theorem dX11_isSo_55 : decode cX11_isSo 55 = .ok (.invokevirtual 333, 3) := by decide +kernel
theorem dX11_isSo_58 : decode cX11_isSo 58 = .ok (.istore 4, 2) := by decide +kernel
theorem dX11_isSo_60 : decode cX11_isSo 60 = .ok (.aload_n 0, 1) := by decide +kernel
theorem dX11_isSo_61 : decode cX11_isSo 61 = .ok (.getfield 35, 3) := by decide +kernel
theorem dX11_isSo_64 : decode cX11_isSo 64 = .ok (.iload_n 1, 1) := by decide +kernel
theorem dX11_isSo_65 : decode cX11_isSo 65 = .ok (.bipush 7, 2) := by decide +kernel
theorem dX11_isSo_67 : decode cX11_isSo 67 = .ok (.iadd, 1) := by decide +kernel
theorem dX11_isSo_68 : decode cX11_isSo 68 = .ok (.iaload, 1) := by decide +kernel
theorem dX11_isSo_69 : decode cX11_isSo 69 = .ok (.bipush 60, 2) := by decide +kernel
theorem dX11_isSo_71 : decode cX11_isSo 71 = .ok (.if_icmp .ne 24, 3) := by decide +kernel
theorem dX11_isSo_74 : decode cX11_isSo 74 = .ok (.iload 4, 2) := by decide +kernel
theorem dX11_isSo_76 : decode cX11_isSo 76 = .ok (.aload_n 0, 1) := by decide +kernel
theorem dX11_isSo_77 : decode cX11_isSo 77 = .ok (.getfield 35, 3) := by decide +kernel
theorem dX11_isSo_80 : decode cX11_isSo 80 = .ok (.iload_n 1, 1) := by decide +kernel
theorem dX11_isSo_81 : decode cX11_isSo 81 = .ok (.iconst 2, 1) := by decide +kernel
theorem dX11_isSo_82 : decode cX11_isSo 82 = .ok (.iadd, 1) := by decide +kernel
theorem dX11_isSo_83 : decode cX11_isSo 83 = .ok (.iaload, 1) := by decide +kernel
theorem dX11_isSo_84 : decode cX11_isSo 84 = .ok (.if_icmp .ge 7, 3) := by decide +kernel
theorem dX11_isSo_87 : decode cX11_isSo 87 = .ok (.iconst 1, 1) := by decide +kernel
theorem dX11_isSo_88 : decode cX11_isSo 88 = .ok (.goto 60, 3) := by decide +kernel
theorem dX11_isSo_91 : decode cX11_isSo 91 = .ok (.iconst 0, 1) := by decide +kernel
theorem dX11_isSo_92 : decode cX11_isSo 92 = .ok (.goto 56, 3) := by decide +kernel
theorem dX11_isSo_95 : decode cX11_isSo 95 = .ok (.aload_n 0, 1) := by decide +kernel
theorem dX11_isSo_96 : decode cX11_isSo 96 = .ok (.getfield 35, 3) := by decide +kernel
theorem dX11_isSo_99 : decode cX11_isSo 99 = .ok (.iload_n 1, 1) := by decide +kernel
theorem dX11_isSo_100 : decode cX11_isSo 100 = .ok (.bipush 7, 2) := by decide +kernel
theorem dX11_isSo_102 : decode cX11_isSo 102 = .ok (.iadd, 1) := by decide +kernel
theorem dX11_isSo_103 : decode cX11_isSo 103 = .ok (.iaload, 1) := by decide +kernel
theorem dX11_isSo_104 : decode cX11_isSo 104 = .ok (.bipush 62, 2) := by decide +kernel
theorem dX11_isSo_106 : decode cX11_isSo 106 = .ok (.if_icmp .ne 24, 3) := by decide +kernel
theorem dX11_isSo_109 : decode cX11_isSo 109 = .ok (.iload 4, 2) := by decide +kernel
theorem dX11_isSo_111 : decode cX11_isSo 111 = .ok (.aload_n 0, 1) := by decide +kernel
theorem dX11_isSo_112 : decode cX11_isSo 112 = .ok (.getfield 35, 3) := by decide +kernel
theorem dX11_isSo_115 : decode cX11_isSo 115 = .ok (.iload_n 1, 1) := by decide +kernel
theorem dX11_isSo_116 : decode cX11_isSo 116 = .ok (.iconst 2, 1) := by decide +kernel
theorem dX11_isSo_117 : decode cX11_isSo 117 = .ok (.iadd, 1) := by decide +kernel
theorem dX11_isSo_118 : decode cX11_isSo 118 = .ok (.iaload, 1) := by decide +kernel
theorem dX11_isSo_119 : decode cX11_isSo 119 = .ok (.if_icmp .le 7, 3) := by decide +kernel
theorem dX11_isSo_122 : decode cX11_isSo 122 = .ok (.iconst 1, 1) := by decide +kernel
theorem dX11_isSo_123 : decode cX11_isSo 123 = .ok (.goto 25, 3) := by decide +kernel
theorem dX11_isSo_126 : decode cX11_isSo 126 = .ok (.iconst 0, 1) := by decide +kernel
theorem dX11_isSo_127 : decode cX11_isSo 127 = .ok (.goto 21, 3) := by decide +kernel
theorem dX11_isSo_130 : decode cX11_isSo 130 = .ok (.iload 4, 2) := by decide +kernel
theorem dX11_isSo_132 : decode cX11_isSo 132 = .ok (.aload_n 0, 1) := by decide +kernel
theorem dX11_isSo_133 : decode cX11_isSo 133 = .ok (.getfield 35, 3) := by decide +kernel
theorem dX11_isSo_136 : decode cX11_isSo 136 = .ok (.iload_n 1, 1) := by decide +kernel
theorem dX11_isSo_137 : decode cX11_isSo 137 = .ok (.iconst 2, 1) := by decide +kernel
theorem dX11_isSo_138 : decode cX11_isSo 138 = .ok (.iadd, 1) := by decide +kernel
theorem dX11_isSo_139 : decode cX11_isSo 139 = .ok (.iaload, 1) := by decide +kernel
theorem dX11_isSo_140 : decode cX11_isSo 140 = .ok (.if_icmp .ne 7, 3) := by decide +kernel
theorem dX11_isSo_143 : decode cX11_isSo 143 = .ok (.iconst 1, 1) := by decide +kernel
theorem dX11_isSo_144 : decode cX11_isSo 144 = .ok (.goto 4, 3) := by decide +kernel
theorem dX11_isSo_147 : decode cX11_isSo 147 = .ok (.iconst 0, 1) := by decide +kernel
theorem dX11_isSo_148 : decode cX11_isSo 148 = .ok (.ireturn, 1) := by decide +kernel
theorem dX11_doOne_0 : decode cX11_doOne 0 = .ok (.aload_n 0, 1) := by decide +kernel
theorem dX11_doOne_1 : decode cX11_doOne 1 = .ok (.getfield 490, 3) := by decide +kernel
theorem dX11_doOne_4 : decode cX11_doOne 4 = .ok (.sipush 300, 3) := by decide +kernel
theorem dX11_doOne_7 : decode cX11_doOne 7 = .ok (.if_icmp .ne 14, 3) := by decide +kernel
theorem dX11_doOne_10 : decode cX11_doOne 10 = .ok (.aload_n 0, 1) := by decide +kernel
theorem dX11_doOne_11 : decode cX11_doOne 11 = .ok (.iconst 1, 1) := by decide +kernel
theorem dX11_doOne_12 : decode cX11_doOne 12 = .ok (.putfield 493, 3) := by decide +kernel
theorem dX11_doOne_15 : decode cX11_doOne 15 = .ok (.aload_n 0, 1) := by decide +kernel
theorem dX11_doOne_16 : decode cX11_doOne 16 = .ok (.iconst 1, 1) := by decide +kernel
theorem dX11_doOne_17 : decode cX11_doOne 17 = .ok (.putfield 496, 3) := by decide +kernel
theorem dX11_doOne_20 : decode cX11_doOne 20 = .ok (.return_, 1) := by decide +kernel
theorem dX11_doOne_21 : decode cX11_doOne 21 = .ok (.aload_n 0, 1) := by decide +kernel
theorem dX11_doOne_22 : decode cX11_doOne 22 = .ok (.dup, 1) := by decide +kernel
theorem dX11_doOne_23 : decode cX11_doOne 23 = .ok (.getfield 490, 3) := by decide +kernel
theorem dX11_doOne_26 : decode cX11_doOne 26 = .ok (.iconst 1, 1) := by decide +kernel
theorem dX11_doOne_27 : decode cX11_doOne 27 = .ok (.iadd, 1) := by decide +kernel
theorem dX11_doOne_28 : decode cX11_doOne 28 = .ok (.putfield 490, 3) := by decide +kernel
theorem dX11_doOne_31 : decode cX11_doOne 31 = .ok (.sipush 130, 3) := by decide +kernel
theorem dX11_doOne_34 : decode cX11_doOne 34 = .ok (.bipush 9, 2) := by decide +kernel
theorem dX11_doOne_36 : decode cX11_doOne 36 = .ok (.iload_n 1, 1) := by decide +kernel
theorem dX11_doOne_37 : decode cX11_doOne 37 = .ok (.imul, 1) := by decide +kernel
theorem dX11_doOne_38 : decode cX11_doOne 38 = .ok (.iadd, 1) := by decide +kernel
theorem dX11_doOne_39 : decode cX11_doOne 39 = .ok (.istore_n 2, 1) := by decide +kernel
theorem dX11_doOne_40 : decode cX11_doOne 40 = .ok (.aload_n 0, 1) := by decide +kernel
theorem dX11_doOne_41 : decode cX11_doOne 41 = .ok (.getfield 35, 3) := by decide +kernel
theorem dX11_doOne_44 : decode cX11_doOne 44 = .ok (.iload_n 2, 1) := by decide +kernel
theorem dX11_doOne_45 : decode cX11_doOne 45 = .ok (.iaload, 1) := by decide +kernel
theorem dX11_doOne_46 : decode cX11_doOne 46 = .ok (.istore_n 3, 1) := by decide +kernel
theorem dX11_doOne_47 : decode cX11_doOne 47 = .ok (.iload_n 3, 1) := by decide +kernel
theorem dX11_doOne_48 : decode cX11_doOne 48 = .ok (.iconst 5, 1) := by decide +kernel
theorem dX11_doOne_49 : decode cX11_doOne 49 = .ok (.if_icmp .ge 28, 3) := by decide +kernel
theorem dX11_doOne_52 : decode cX11_doOne 52 = .ok (.aload_n 0, 1) := by decide +kernel
theorem dX11_doOne_53 : decode cX11_doOne 53 = .ok (.dup, 1) := by decide +kernel
theorem dX11_doOne_54 : decode cX11_doOne 54 = .ok (.getfield 499, 3) := by decide +kernel
theorem dX11_doOne_57 : decode cX11_doOne 57 = .ok (.aload_n 0, 1) := by decide +kernel
theorem dX11_doOne_58 : decode cX11_doOne 58 = .ok (.iload_n 2, 1) := by decide +kernel
theorem dX11_doOne_59 : decode cX11_doOne 59 = .ok (.invokevirtual 502, 3) := by decide +kernel
theorem dX11_doOne_62 : decode cX11_doOne 62 = .ok (.ifCond .eq 7, 3) := by decide +kernel
theorem dX11_doOne_65 : decode cX11_doOne 65 = .ok (.iconst 0, 1) := by decide +kernel
theorem dX11_doOne_66 : decode cX11_doOne 66 = .ok (.goto 4, 3) := by decide +kernel
theorem dX11_doOne_69 : decode cX11_doOne 69 = .ok (.iconst 1, 1) := by decide +kernel
theorem dX11_doOne_70 : decode cX11_doOne 70 = .ok (.iadd, 1) := by decide +kernel
theorem dX11_doOne_71 : decode cX11_doOne 71 = .ok (.putfield 499, 3) := by decide +kernel
theorem dX11_doOne_74 : decode cX11_doOne 74 = .ok (.goto 100, 3) := by decide +kernel
theorem dX11_doOne_77 : decode cX11_doOne 77 = .ok (.iload_n 3, 1) := by decide +kernel
theorem dX11_doOne_78 : decode cX11_doOne 78 = .ok (.iconst 5, 1) := by decide +kernel
theorem dX11_doOne_79 : decode cX11_doOne 79 = .ok (.if_icmp .ne 30, 3) := by decide +kernel
theorem dX11_doOne_82 : decode cX11_doOne 82 = .ok (.aload_n 0, 1) := by decide +kernel
theorem dX11_doOne_83 : decode cX11_doOne 83 = .ok (.iload_n 2, 1) := by decide +kernel
theorem dX11_doOne_84 : decode cX11_doOne 84 = .ok (.invokevirtual 505, 3) := by decide +kernel
theorem dX11_doOne_87 : decode cX11_doOne 87 = .ok (.ifCond .eq 22, 3) := by decide +kernel
theorem dX11_doOne_90 : decode cX11_doOne 90 = .ok (.aload_n 0, 1) := by decide +kernel
theorem dX11_doOne_91 : decode cX11_doOne 91 = .ok (.iload_n 1, 1) := by decide +kernel
theorem dX11_doOne_92 : decode cX11_doOne 92 = .ok (.iconst 1, 1) := by decide +kernel
theorem dX11_doOne_93 : decode cX11_doOne 93 = .ok (.iadd, 1) := by decide +kernel
theorem dX11_doOne_94 : decode cX11_doOne 94 = .ok (.aload_n 0, 1) := by decide +kernel
theorem dX11_doOne_95 : decode cX11_doOne 95 = .ok (.getfield 35, 3) := by decide +kernel
theorem dX11_doOne_98 : decode cX11_doOne 98 = .ok (.iload_n 2, 1) := by decide +kernel
theorem dX11_doOne_99 : decode cX11_doOne 99 = .ok (.bipush 8, 2) := by decide +kernel
theorem dX11_doOne_101 : decode cX11_doOne 101 = .ok (.iadd, 1) := by decide +kernel
theorem dX11_doOne_102 : decode cX11_doOne 102 = .ok (.iaload, 1) := by decide +kernel
theorem dX11_doOne_103 : decode cX11_doOne 103 = .ok (.invokevirtual 508, 3) := by decide +kernel
theorem dX11_doOne_106 : decode cX11_doOne 106 = .ok (.goto 68, 3) := by decide +kernel
theorem dX11_doOne_109 : decode cX11_doOne 109 = .ok (.iload_n 3, 1) := by decide +kernel
theorem dX11_doOne_110 : decode cX11_doOne 110 = .ok (.bipush 6, 2) := by decide +kernel
theorem dX11_doOne_112 : decode cX11_doOne 112 = .ok (.if_icmp .ne 51, 3) := by decide +kernel
theorem dX11_doOne_115 : decode cX11_doOne 115 = .ok (.iconst 0, 1) := by decide +kernel
theorem dX11_doOne_116 : decode cX11_doOne 116 = .ok (.istore 4, 2) := by decide +kernel
theorem dX11_doOne_118 : decode cX11_doOne 118 = .ok (.iload 4, 2) := by decide +kernel
theorem dX11_doOne_120 : decode cX11_doOne 120 = .ok (.aload_n 0, 1) := by decide +kernel
theorem dX11_doOne_121 : decode cX11_doOne 121 = .ok (.getfield 35, 3) := by decide +kernel
theorem dX11_doOne_124 : decode cX11_doOne 124 = .ok (.iload_n 2, 1) := by decide +kernel
theorem dX11_doOne_125 : decode cX11_doOne 125 = .ok (.iconst 1, 1) := by decide +kernel
theorem dX11_doOne_126 : decode cX11_doOne 126 = .ok (.iadd, 1) := by decide +kernel
theorem dX11_doOne_127 : decode cX11_doOne 127 = .ok (.iaload, 1) := by decide +kernel
theorem dX11_doOne_128 : decode cX11_doOne 128 = .ok (.if_icmp .ge 32, 3) := by decide +kernel
theorem dX11_doOne_131 : decode cX11_doOne 131 = .ok (.aload_n 0, 1) := by decide +kernel
theorem dX11_doOne_132 : decode cX11_doOne 132 = .ok (.getfield 493, 3) := by decide +kernel
theorem dX11_doOne_135 : decode cX11_doOne 135 = .ok (.ifCond .ne 25, 3) := by decide +kernel
theorem dX11_doOne_138 : decode cX11_doOne 138 = .ok (.aload_n 0, 1) := by decide +kernel
theorem dX11_doOne_139 : decode cX11_doOne 139 = .ok (.iload_n 1, 1) := by decide +kernel
theorem dX11_doOne_140 : decode cX11_doOne 140 = .ok (.iconst 1, 1) := by decide +kernel
theorem dX11_doOne_141 : decode cX11_doOne 141 = .ok (.iadd, 1) := by decide +kernel
theorem dX11_doOne_142 : decode cX11_doOne 142 = .ok (.aload_n 0, 1) := by decide +kernel
theorem dX11_doOne_143 : decode cX11_doOne 143 = .ok (.getfield 35, 3) := by decide +kernel
theorem dX11_doOne_146 : decode cX11_doOne 146 = .ok (.iload_n 2, 1) := by decide +kernel
theorem dX11_doOne_147 : decode cX11_doOne 147 = .ok (.bipush 8, 2) := by decide +kernel
theorem dX11_doOne_149 : decode cX11_doOne 149 = .ok (.iadd, 1) := by decide +kernel
theorem dX11_doOne_150 : decode cX11_doOne 150 = .ok (.iaload, 1) := by decide +kernel
theorem dX11_doOne_151 : decode cX11_doOne 151 = .ok (.invokevirtual 508, 3) := by decide +kernel
theorem dX11_doOne_154 : decode cX11_doOne 154 = .ok (.iinc 4 1, 3) := by decide +kernel
theorem dX11_doOne_157 : decode cX11_doOne 157 = .ok (.goto (-39), 3) := by decide +kernel
theorem dX11_doOne_160 : decode cX11_doOne 160 = .ok (.goto 14, 3) := by decide +kernel
theorem dX11_doOne_163 : decode cX11_doOne 163 = .ok (.iload_n 3, 1) := by decide +kernel
theorem dX11_doOne_164 : decode cX11_doOne 164 = .ok (.bipush 6, 2) := by decide +kernel
theorem dX11_doOne_166 : decode cX11_doOne 166 = .ok (.if_icmp .le 8, 3) := by decide +kernel
theorem dX11_doOne_169 : decode cX11_doOne 169 = .ok (.aload_n 0, 1) := by decide +kernel
theorem dX11_doOne_170 : decode cX11_doOne 170 = .ok (.iconst 1, 1) := by decide +kernel
theorem dX11_doOne_171 : decode cX11_doOne 171 = .ok (.putfield 493, 3) := by decide +kernel
theorem dX11_doOne_174 : decode cX11_doOne 174 = .ok (.return_, 1) := by decide +kernel
theorem dX11_doAll_0 : decode cX11_doAll 0 = .ok (.iload_n 1, 1) := by decide +kernel
theorem dX11_doAll_1 : decode cX11_doAll 1 = .ok (.istore_n 3, 1) := by decide +kernel
theorem dX11_doAll_2 : decode cX11_doAll 2 = .ok (.iload_n 3, 1) := by decide +kernel
theorem dX11_doAll_3 : decode cX11_doAll 3 = .ok (.iload_n 2, 1) := by decide +kernel
theorem dX11_doAll_4 : decode cX11_doAll 4 = .ok (.if_icmp .ge 35, 3) := by decide +kernel
theorem dX11_doAll_7 : decode cX11_doAll 7 = .ok (.aload_n 0, 1) := by decide +kernel
theorem dX11_doAll_8 : decode cX11_doAll 8 = .ok (.getfield 493, 3) := by decide +kernel
theorem dX11_doAll_11 : decode cX11_doAll 11 = .ok (.ifCond .ne 28, 3) := by decide +kernel
theorem dX11_doAll_14 : decode cX11_doAll 14 = .ok (.aload_n 0, 1) := by decide +kernel
theorem dX11_doAll_15 : decode cX11_doAll 15 = .ok (.iload_n 3, 1) := by decide +kernel
theorem dX11_doAll_16 : decode cX11_doAll 16 = .ok (.invokevirtual 511, 3) := by decide +kernel
theorem dX11_doAll_19 : decode cX11_doAll 19 = .ok (.aload_n 0, 1) := by decide +kernel
theorem dX11_doAll_20 : decode cX11_doAll 20 = .ok (.getfield 35, 3) := by decide +kernel
theorem dX11_doAll_23 : decode cX11_doAll 23 = .ok (.sipush 130, 3) := by decide +kernel
theorem dX11_doAll_26 : decode cX11_doAll 26 = .ok (.bipush 9, 2) := by decide +kernel
theorem dX11_doAll_28 : decode cX11_doAll 28 = .ok (.iload_n 3, 1) := by decide +kernel
theorem dX11_doAll_29 : decode cX11_doAll 29 = .ok (.imul, 1) := by decide +kernel
theorem dX11_doAll_30 : decode cX11_doAll 30 = .ok (.iadd, 1) := by decide +kernel
theorem dX11_doAll_31 : decode cX11_doAll 31 = .ok (.bipush 8, 2) := by decide +kernel
theorem dX11_doAll_33 : decode cX11_doAll 33 = .ok (.iadd, 1) := by decide +kernel
theorem dX11_doAll_34 : decode cX11_doAll 34 = .ok (.iaload, 1) := by decide +kernel
theorem dX11_doAll_35 : decode cX11_doAll 35 = .ok (.istore_n 3, 1) := by decide +kernel
theorem dX11_doAll_36 : decode cX11_doAll 36 = .ok (.goto (-34), 3) := by decide +kernel
theorem dX11_doAll_39 : decode cX11_doAll 39 = .ok (.return_, 1) := by decide +kernel
theorem dX11_runs_0 : decode cX11_runs 0 = .ok (.aload_n 0, 1) := by decide +kernel
theorem dX11_runs_1 : decode cX11_runs 1 = .ok (.iload_n 1, 1) := by decide +kernel
theorem dX11_runs_2 : decode cX11_runs 2 = .ok (.putfield 468, 3) := by decide +kernel
theorem dX11_runs_5 : decode cX11_runs 5 = .ok (.aload_n 0, 1) := by decide +kernel
theorem dX11_runs_6 : decode cX11_runs 6 = .ok (.iconst 0, 1) := by decide +kernel
theorem dX11_runs_7 : decode cX11_runs 7 = .ok (.putfield 490, 3) := by decide +kernel
theorem dX11_runs_10 : decode cX11_runs 10 = .ok (.aload_n 0, 1) := by decide +kernel
theorem dX11_runs_11 : decode cX11_runs 11 = .ok (.iconst 0, 1) := by decide +kernel
theorem dX11_runs_12 : decode cX11_runs 12 = .ok (.putfield 499, 3) := by decide +kernel
theorem dX11_runs_15 : decode cX11_runs 15 = .ok (.aload_n 0, 1) := by decide +kernel
theorem dX11_runs_16 : decode cX11_runs 16 = .ok (.iconst 0, 1) := by decide +kernel
theorem dX11_runs_17 : decode cX11_runs 17 = .ok (.putfield 472, 3) := by decide +kernel
theorem dX11_runs_20 : decode cX11_runs 20 = .ok (.aload_n 0, 1) := by decide +kernel
theorem dX11_runs_21 : decode cX11_runs 21 = .ok (.iconst 0, 1) := by decide +kernel
theorem dX11_runs_22 : decode cX11_runs 22 = .ok (.putfield 475, 3) := by decide +kernel
theorem dX11_runs_25 : decode cX11_runs 25 = .ok (.aload_n 0, 1) := by decide +kernel
theorem dX11_runs_26 : decode cX11_runs 26 = .ok (.iconst 0, 1) := by decide +kernel
theorem dX11_runs_27 : decode cX11_runs 27 = .ok (.putfield 496, 3) := by decide +kernel
theorem dX11_runs_30 : decode cX11_runs 30 = .ok (.aload_n 0, 1) := by decide +kernel
theorem dX11_runs_31 : decode cX11_runs 31 = .ok (.iconst 0, 1) := by decide +kernel
theorem dX11_runs_32 : decode cX11_runs 32 = .ok (.putfield 493, 3) := by decide +kernel
theorem dX11_runs_35 : decode cX11_runs 35 = .ok (.aload_n 0, 1) := by decide +kernel
theorem dX11_runs_36 : decode cX11_runs 36 = .ok (.iconst 0, 1) := by decide +kernel
theorem dX11_runs_37 : decode cX11_runs 37 = .ok (.aload_n 0, 1) := by decide +kernel
theorem dX11_runs_38 : decode cX11_runs 38 = .ok (.getfield 35, 3) := by decide +kernel
theorem dX11_runs_41 : decode cX11_runs 41 = .ok (.sipush 129, 3) := by decide +kernel
theorem dX11_runs_44 : decode cX11_runs 44 = .ok (.iaload, 1) := by decide +kernel
theorem dX11_runs_45 : decode cX11_runs 45 = .ok (.invokevirtual 508, 3) := by decide +kernel
theorem dX11_runs_48 : decode cX11_runs 48 = .ok (.return_, 1) := by decide +kernel
theorem dX11_live_0 : decode cX11_live 0 = .ok (.aload_n 0, 1) := by decide +kernel
theorem dX11_live_1 : decode cX11_live 1 = .ok (.iconst 0, 1) := by decide +kernel
theorem dX11_live_2 : decode cX11_live 2 = .ok (.putfield 94, 3) := by decide +kernel
theorem dX11_live_5 : decode cX11_live 5 = .ok (.aload_n 0, 1) := by decide +kernel
theorem dX11_live_6 : decode cX11_live 6 = .ok (.iconst 0, 1) := by decide +kernel
theorem dX11_live_7 : decode cX11_live 7 = .ok (.putfield 97, 3) := by decide +kernel
theorem dX11_live_10 : decode cX11_live 10 = .ok (.iload_n 1, 1) := by decide +kernel
theorem dX11_live_11 : decode cX11_live 11 = .ok (.i2l, 1) := by decide +kernel
theorem dX11_live_12 : decode cX11_live 12 = .ok (.lconst 0, 1) := by decide +kernel
theorem dX11_live_13 : decode cX11_live 13 = .ok (.ldc2_w 514, 3) := by decide +kernel
theorem dX11_live_16 : decode cX11_live 16 = .ok (.invokestatic 129, 3) := by decide +kernel
theorem dX11_live_19 : decode cX11_live 19 = .ok (.ifCond .ne 9, 3) := by decide +kernel
theorem dX11_live_22 : decode cX11_live 22 = .ok (.aload_n 0, 1) := by decide +kernel
theorem dX11_live_23 : decode cX11_live 23 = .ok (.iconst 5, 1) := by decide +kernel
theorem dX11_live_24 : decode cX11_live 24 = .ok (.invokevirtual 336, 3) := by decide +kernel
theorem dX11_live_27 : decode cX11_live 27 = .ok (.ireturn, 1) := by decide +kernel
theorem dX11_live_28 : decode cX11_live 28 = .ok (.aload_n 0, 1) := by decide +kernel
theorem dX11_live_29 : decode cX11_live 29 = .ok (.getfield 35, 3) := by decide +kernel
theorem dX11_live_32 : decode cX11_live 32 = .ok (.sipush 128, 3) := by decide +kernel
theorem dX11_live_35 : decode cX11_live 35 = .ok (.iaload, 1) := by decide +kernel
theorem dX11_live_36 : decode cX11_live 36 = .ok (.ifCond .ne 10, 3) := by decide +kernel
theorem dX11_live_39 : decode cX11_live 39 = .ok (.aload_n 0, 1) := by decide +kernel
theorem dX11_live_40 : decode cX11_live 40 = .ok (.bipush 8, 2) := by decide +kernel
theorem dX11_live_42 : decode cX11_live 42 = .ok (.invokevirtual 336, 3) := by decide +kernel
theorem dX11_live_45 : decode cX11_live 45 = .ok (.ireturn, 1) := by decide +kernel
theorem dX11_live_46 : decode cX11_live 46 = .ok (.aload_n 0, 1) := by decide +kernel
theorem dX11_live_47 : decode cX11_live 47 = .ok (.iload_n 1, 1) := by decide +kernel
theorem dX11_live_48 : decode cX11_live 48 = .ok (.invokevirtual 516, 3) := by decide +kernel
theorem dX11_live_51 : decode cX11_live 51 = .ok (.aload_n 0, 1) := by decide +kernel
theorem dX11_live_52 : decode cX11_live 52 = .ok (.getfield 91, 3) := by decide +kernel
theorem dX11_live_55 : decode cX11_live 55 = .ok (.iconst 0, 1) := by decide +kernel
theorem dX11_live_56 : decode cX11_live 56 = .ok (.aload_n 0, 1) := by decide +kernel
theorem dX11_live_57 : decode cX11_live 57 = .ok (.getfield 499, 3) := by decide +kernel
theorem dX11_live_60 : decode cX11_live 60 = .ok (.iastore, 1) := by decide +kernel
theorem dX11_live_61 : decode cX11_live 61 = .ok (.aload_n 0, 1) := by decide +kernel
theorem dX11_live_62 : decode cX11_live 62 = .ok (.getfield 91, 3) := by decide +kernel
theorem dX11_live_65 : decode cX11_live 65 = .ok (.iconst 1, 1) := by decide +kernel
theorem dX11_live_66 : decode cX11_live 66 = .ok (.aload_n 0, 1) := by decide +kernel
theorem dX11_live_67 : decode cX11_live 67 = .ok (.getfield 472, 3) := by decide +kernel
theorem dX11_live_70 : decode cX11_live 70 = .ok (.iastore, 1) := by decide +kernel
theorem dX11_live_71 : decode cX11_live 71 = .ok (.aload_n 0, 1) := by decide +kernel
theorem dX11_live_72 : decode cX11_live 72 = .ok (.getfield 91, 3) := by decide +kernel
theorem dX11_live_75 : decode cX11_live 75 = .ok (.iconst 2, 1) := by decide +kernel
theorem dX11_live_76 : decode cX11_live 76 = .ok (.aload_n 0, 1) := by decide +kernel
theorem dX11_live_77 : decode cX11_live 77 = .ok (.getfield 475, 3) := by decide +kernel
theorem dX11_live_80 : decode cX11_live 80 = .ok (.iastore, 1) := by decide +kernel
theorem dX11_live_81 : decode cX11_live 81 = .ok (.aload_n 0, 1) := by decide +kernel
theorem dX11_live_82 : decode cX11_live 82 = .ok (.getfield 91, 3) := by decide +kernel
theorem dX11_live_85 : decode cX11_live 85 = .ok (.iconst 3, 1) := by decide +kernel
theorem dX11_live_86 : decode cX11_live 86 = .ok (.aload_n 0, 1) := by decide +kernel
theorem dX11_live_87 : decode cX11_live 87 = .ok (.getfield 496, 3) := by decide +kernel
theorem dX11_live_90 : decode cX11_live 90 = .ok (.iastore, 1) := by decide +kernel
theorem dX11_live_91 : decode cX11_live 91 = .ok (.aload_n 0, 1) := by decide +kernel
theorem dX11_live_92 : decode cX11_live 92 = .ok (.iconst 1, 1) := by decide +kernel
theorem dX11_live_93 : decode cX11_live 93 = .ok (.putfield 519, 3) := by decide +kernel
theorem dX11_live_96 : decode cX11_live 96 = .ok (.aload_n 0, 1) := by decide +kernel
theorem dX11_live_97 : decode cX11_live 97 = .ok (.getfield 490, 3) := by decide +kernel
theorem dX11_live_100 : decode cX11_live 100 = .ok (.ireturn, 1) := by decide +kernel
theorem dX11_lived_0 : decode cX11_lived 0 = .ok (.aload_n 0, 1) := by decide +kernel
theorem dX11_lived_1 : decode cX11_lived 1 = .ok (.iconst 0, 1) := by decide +kernel
theorem dX11_lived_2 : decode cX11_lived 2 = .ok (.putfield 94, 3) := by decide +kernel
theorem dX11_lived_5 : decode cX11_lived 5 = .ok (.aload_n 0, 1) := by decide +kernel
theorem dX11_lived_6 : decode cX11_lived 6 = .ok (.iconst 0, 1) := by decide +kernel
theorem dX11_lived_7 : decode cX11_lived 7 = .ok (.putfield 97, 3) := by decide +kernel
theorem dX11_lived_10 : decode cX11_lived 10 = .ok (.iload_n 1, 1) := by decide +kernel
theorem dX11_lived_11 : decode cX11_lived 11 = .ok (.i2l, 1) := by decide +kernel
theorem dX11_lived_12 : decode cX11_lived 12 = .ok (.lconst 0, 1) := by decide +kernel
theorem dX11_lived_13 : decode cX11_lived 13 = .ok (.ldc2_w 127, 3) := by decide +kernel
theorem dX11_lived_16 : decode cX11_lived 16 = .ok (.invokestatic 129, 3) := by decide +kernel
theorem dX11_lived_19 : decode cX11_lived 19 = .ok (.ifCond .ne 9, 3) := by decide +kernel
theorem dX11_lived_22 : decode cX11_lived 22 = .ok (.aload_n 0, 1) := by decide +kernel
theorem dX11_lived_23 : decode cX11_lived 23 = .ok (.iconst 5, 1) := by decide +kernel
theorem dX11_lived_24 : decode cX11_lived 24 = .ok (.invokevirtual 336, 3) := by decide +kernel
theorem dX11_lived_27 : decode cX11_lived 27 = .ok (.ireturn, 1) := by decide +kernel
theorem dX11_lived_28 : decode cX11_lived 28 = .ok (.aload_n 0, 1) := by decide +kernel
theorem dX11_lived_29 : decode cX11_lived 29 = .ok (.getfield 519, 3) := by decide +kernel
theorem dX11_lived_32 : decode cX11_lived 32 = .ok (.ifCond .eq 12, 3) := by decide +kernel
theorem dX11_lived_35 : decode cX11_lived 35 = .ok (.aload_n 0, 1) := by decide +kernel
theorem dX11_lived_36 : decode cX11_lived 36 = .ok (.getfield 91, 3) := by decide +kernel
theorem dX11_lived_39 : decode cX11_lived 39 = .ok (.iload_n 1, 1) := by decide +kernel
theorem dX11_lived_40 : decode cX11_lived 40 = .ok (.iaload, 1) := by decide +kernel
theorem dX11_lived_41 : decode cX11_lived 41 = .ok (.goto 9, 3) := by decide +kernel
theorem dX11_lived_44 : decode cX11_lived 44 = .ok (.aload_n 0, 1) := by decide +kernel
theorem dX11_lived_45 : decode cX11_lived 45 = .ok (.bipush 8, 2) := by decide +kernel
theorem dX11_lived_47 : decode cX11_lived 47 = .ok (.invokevirtual 336, 3) := by decide +kernel
theorem dX11_lived_50 : decode cX11_lived 50 = .ok (.ireturn, 1) := by decide +kernel
theorem dX11_odds_0 : decode cX11_odds 0 = .ok (.aload_n 0, 1) := by decide +kernel
theorem dX11_odds_1 : decode cX11_odds 1 = .ok (.iconst 0, 1) := by decide +kernel
theorem dX11_odds_2 : decode cX11_odds 2 = .ok (.putfield 94, 3) := by decide +kernel
theorem dX11_odds_5 : decode cX11_odds 5 = .ok (.aload_n 0, 1) := by decide +kernel
theorem dX11_odds_6 : decode cX11_odds 6 = .ok (.iconst 0, 1) := by decide +kernel
theorem dX11_odds_7 : decode cX11_odds 7 = .ok (.putfield 97, 3) := by decide +kernel
theorem dX11_odds_10 : decode cX11_odds 10 = .ok (.aload_n 0, 1) := by decide +kernel
theorem dX11_odds_11 : decode cX11_odds 11 = .ok (.iload_n 1, 1) := by decide +kernel
theorem dX11_odds_12 : decode cX11_odds 12 = .ok (.invokevirtual 342, 3) := by decide +kernel
theorem dX11_odds_15 : decode cX11_odds 15 = .ok (.ifCond .ne 9, 3) := by decide +kernel
theorem dX11_odds_18 : decode cX11_odds 18 = .ok (.aload_n 0, 1) := by decide +kernel
theorem dX11_odds_19 : decode cX11_odds 19 = .ok (.iconst 2, 1) := by decide +kernel
theorem dX11_odds_20 : decode cX11_odds 20 = .ok (.invokevirtual 109, 3) := by decide +kernel
theorem dX11_odds_23 : decode cX11_odds 23 = .ok (.ireturn, 1) := by decide +kernel
theorem dX11_odds_24 : decode cX11_odds 24 = .ok (.iload_n 3, 1) := by decide +kernel
theorem dX11_odds_25 : decode cX11_odds 25 = .ok (.i2l, 1) := by decide +kernel
theorem dX11_odds_26 : decode cX11_odds 26 = .ok (.lconst 1, 1) := by decide +kernel
theorem dX11_odds_27 : decode cX11_odds 27 = .ok (.ldc2_w 522, 3) := by decide +kernel
theorem dX11_odds_30 : decode cX11_odds 30 = .ok (.invokestatic 129, 3) := by decide +kernel
theorem dX11_odds_33 : decode cX11_odds 33 = .ok (.ifCond .eq 18, 3) := by decide +kernel
theorem dX11_odds_36 : decode cX11_odds 36 = .ok (.iload_n 2, 1) := by decide +kernel
theorem dX11_odds_37 : decode cX11_odds 37 = .ok (.i2l, 1) := by decide +kernel
theorem dX11_odds_38 : decode cX11_odds 38 = .ok (.lconst 0, 1) := by decide +kernel
theorem dX11_odds_39 : decode cX11_odds 39 = .ok (.sipush 10000, 3) := by decide +kernel
theorem dX11_odds_42 : decode cX11_odds 42 = .ok (.iload_n 3, 1) := by decide +kernel
theorem dX11_odds_43 : decode cX11_odds 43 = .ok (.isub, 1) := by decide +kernel
theorem dX11_odds_44 : decode cX11_odds 44 = .ok (.i2l, 1) := by decide +kernel
theorem dX11_odds_45 : decode cX11_odds 45 = .ok (.invokestatic 129, 3) := by decide +kernel
theorem dX11_odds_48 : decode cX11_odds 48 = .ok (.ifCond .ne 9, 3) := by decide +kernel
theorem dX11_odds_51 : decode cX11_odds 51 = .ok (.aload_n 0, 1) := by decide +kernel
theorem dX11_odds_52 : decode cX11_odds 52 = .ok (.iconst 5, 1) := by decide +kernel
theorem dX11_odds_53 : decode cX11_odds 53 = .ok (.invokevirtual 109, 3) := by decide +kernel
theorem dX11_odds_56 : decode cX11_odds 56 = .ok (.ireturn, 1) := by decide +kernel
theorem dX11_odds_57 : decode cX11_odds 57 = .ok (.aload_n 0, 1) := by decide +kernel
theorem dX11_odds_58 : decode cX11_odds 58 = .ok (.getfield 35, 3) := by decide +kernel
theorem dX11_odds_61 : decode cX11_odds 61 = .ok (.sipush 128, 3) := by decide +kernel
theorem dX11_odds_64 : decode cX11_odds 64 = .ok (.iaload, 1) := by decide +kernel
theorem dX11_odds_65 : decode cX11_odds 65 = .ok (.ifCond .ne 10, 3) := by decide +kernel
theorem dX11_odds_68 : decode cX11_odds 68 = .ok (.aload_n 0, 1) := by decide +kernel
theorem dX11_odds_69 : decode cX11_odds 69 = .ok (.bipush 8, 2) := by decide +kernel
theorem dX11_odds_71 : decode cX11_odds 71 = .ok (.invokevirtual 109, 3) := by decide +kernel
theorem dX11_odds_74 : decode cX11_odds 74 = .ok (.ireturn, 1) := by decide +kernel
theorem dX11_odds_75 : decode cX11_odds 75 = .ok (.iconst 0, 1) := by decide +kernel
theorem dX11_odds_76 : decode cX11_odds 76 = .ok (.istore 4, 2) := by decide +kernel
theorem dX11_odds_78 : decode cX11_odds 78 = .ok (.iload 4, 2) := by decide +kernel
theorem dX11_odds_80 : decode cX11_odds 80 = .ok (.sipush 128, 3) := by decide +kernel
theorem dX11_odds_83 : decode cX11_odds 83 = .ok (.if_icmp .ge 23, 3) := by decide +kernel
theorem dX11_odds_86 : decode cX11_odds 86 = .ok (.aload_n 0, 1) := by decide +kernel
theorem dX11_odds_87 : decode cX11_odds 87 = .ok (.getfield 38, 3) := by decide +kernel
theorem dX11_odds_90 : decode cX11_odds 90 = .ok (.iload 4, 2) := by decide +kernel
theorem dX11_odds_92 : decode cX11_odds 92 = .ok (.aload_n 0, 1) := by decide +kernel
theorem dX11_odds_93 : decode cX11_odds 93 = .ok (.getfield 35, 3) := by decide +kernel
theorem dX11_odds_96 : decode cX11_odds 96 = .ok (.iload 4, 2) := by decide +kernel
theorem dX11_odds_98 : decode cX11_odds 98 = .ok (.iaload, 1) := by decide +kernel
theorem dX11_odds_99 : decode cX11_odds 99 = .ok (.iastore, 1) := by decide +kernel
theorem dX11_odds_100 : decode cX11_odds 100 = .ok (.iinc 4 1, 3) := by decide +kernel
theorem dX11_odds_103 : decode cX11_odds 103 = .ok (.goto (-25), 3) := by decide +kernel
theorem dX11_odds_106 : decode cX11_odds 106 = .ok (.iconst 0, 1) := by decide +kernel
theorem dX11_odds_107 : decode cX11_odds 107 = .ok (.istore 4, 2) := by decide +kernel
theorem dX11_odds_109 : decode cX11_odds 109 = .ok (.iconst 0, 1) := by decide +kernel
theorem dX11_odds_110 : decode cX11_odds 110 = .ok (.istore 5, 2) := by decide +kernel
theorem dX11_odds_112 : decode cX11_odds 112 = .ok (.iload 5, 2) := by decide +kernel
theorem dX11_odds_114 : decode cX11_odds 114 = .ok (.iload_n 3, 1) := by decide +kernel
theorem dX11_odds_115 : decode cX11_odds 115 = .ok (.if_icmp .ge 67, 3) := by decide +kernel
theorem dX11_odds_118 : decode cX11_odds 118 = .ok (.aload_n 0, 1) := by decide +kernel
theorem dX11_odds_119 : decode cX11_odds 119 = .ok (.iload_n 2, 1) := by decide +kernel
theorem dX11_odds_120 : decode cX11_odds 120 = .ok (.iload 5, 2) := by decide +kernel
theorem dX11_odds_122 : decode cX11_odds 122 = .ok (.iadd, 1) := by decide +kernel
theorem dX11_odds_123 : decode cX11_odds 123 = .ok (.invokevirtual 516, 3) := by decide +kernel
theorem dX11_odds_126 : decode cX11_odds 126 = .ok (.iload 4, 2) := by decide +kernel
theorem dX11_odds_128 : decode cX11_odds 128 = .ok (.aload_n 0, 1) := by decide +kernel
theorem dX11_odds_129 : decode cX11_odds 129 = .ok (.iload_n 1, 1) := by decide +kernel
theorem dX11_odds_130 : decode cX11_odds 130 = .ok (.iconst 0, 1) := by decide +kernel
theorem dX11_odds_131 : decode cX11_odds 131 = .ok (.invokevirtual 405, 3) := by decide +kernel
theorem dX11_odds_134 : decode cX11_odds 134 = .ok (.ifCond .eq 7, 3) := by decide +kernel
theorem dX11_odds_137 : decode cX11_odds 137 = .ok (.iconst 1, 1) := by decide +kernel
theorem dX11_odds_138 : decode cX11_odds 138 = .ok (.goto 4, 3) := by decide +kernel
theorem dX11_odds_141 : decode cX11_odds 141 = .ok (.iconst 0, 1) := by decide +kernel
theorem dX11_odds_142 : decode cX11_odds 142 = .ok (.iadd, 1) := by decide +kernel
theorem dX11_odds_143 : decode cX11_odds 143 = .ok (.istore 4, 2) := by decide +kernel
theorem dX11_odds_145 : decode cX11_odds 145 = .ok (.iconst 0, 1) := by decide +kernel
theorem dX11_odds_146 : decode cX11_odds 146 = .ok (.istore 6, 2) := by decide +kernel
theorem dX11_odds_148 : decode cX11_odds 148 = .ok (.iload 6, 2) := by decide +kernel
theorem dX11_odds_150 : decode cX11_odds 150 = .ok (.sipush 128, 3) := by decide +kernel
theorem dX11_odds_153 : decode cX11_odds 153 = .ok (.if_icmp .ge 23, 3) := by decide +kernel
theorem dX11_odds_156 : decode cX11_odds 156 = .ok (.aload_n 0, 1) := by decide +kernel
theorem dX11_odds_157 : decode cX11_odds 157 = .ok (.getfield 35, 3) := by decide +kernel
theorem dX11_odds_160 : decode cX11_odds 160 = .ok (.iload 6, 2) := by decide +kernel
theorem dX11_odds_162 : decode cX11_odds 162 = .ok (.aload_n 0, 1) := by decide +kernel
theorem dX11_odds_163 : decode cX11_odds 163 = .ok (.getfield 38, 3) := by decide +kernel
theorem dX11_odds_166 : decode cX11_odds 166 = .ok (.iload 6, 2) := by decide +kernel
theorem dX11_odds_168 : decode cX11_odds 168 = .ok (.iaload, 1) := by decide +kernel
theorem dX11_odds_169 : decode cX11_odds 169 = .ok (.iastore, 1) := by decide +kernel
theorem dX11_odds_170 : decode cX11_odds 170 = .ok (.iinc 6 1, 3) := by decide +kernel
theorem dX11_odds_173 : decode cX11_odds 173 = .ok (.goto (-25), 3) := by decide +kernel
theorem dX11_odds_176 : decode cX11_odds 176 = .ok (.iinc 5 1, 3) := by decide +kernel
theorem dX11_odds_179 : decode cX11_odds 179 = .ok (.goto (-67), 3) := by decide +kernel
theorem dX11_odds_182 : decode cX11_odds 182 = .ok (.aload_n 0, 1) := by decide +kernel
theorem dX11_odds_183 : decode cX11_odds 183 = .ok (.iload 4, 2) := by decide +kernel
theorem dX11_odds_185 : decode cX11_odds 185 = .ok (.i2l, 1) := by decide +kernel
theorem dX11_odds_186 : decode cX11_odds 186 = .ok (.iload_n 3, 1) := by decide +kernel
theorem dX11_odds_187 : decode cX11_odds 187 = .ok (.i2l, 1) := by decide +kernel
theorem dX11_odds_188 : decode cX11_odds 188 = .ok (.invokevirtual 452, 3) := by decide +kernel
theorem dX11_odds_191 : decode cX11_odds 191 = .ok (.ireturn, 1) := by decide +kernel
theorem dX11_copy_0 : decode cX11_copy 0 = .ok (.iconst 0, 1) := by decide +kernel
theorem dX11_copy_1 : decode cX11_copy 1 = .ok (.istore_n 3, 1) := by decide +kernel
theorem dX11_copy_2 : decode cX11_copy 2 = .ok (.iload_n 3, 1) := by decide +kernel
theorem dX11_copy_3 : decode cX11_copy 3 = .ok (.sipush 410, 3) := by decide +kernel
theorem dX11_copy_6 : decode cX11_copy 6 = .ok (.if_icmp .ge 33, 3) := by decide +kernel
theorem dX11_copy_9 : decode cX11_copy 9 = .ok (.aload_n 0, 1) := by decide +kernel
theorem dX11_copy_10 : decode cX11_copy 10 = .ok (.getfield 35, 3) := by decide +kernel
theorem dX11_copy_13 : decode cX11_copy 13 = .ok (.sipush 410, 3) := by decide +kernel
theorem dX11_copy_16 : decode cX11_copy 16 = .ok (.iload_n 2, 1) := by decide +kernel
theorem dX11_copy_17 : decode cX11_copy 17 = .ok (.imul, 1) := by decide +kernel
theorem dX11_copy_18 : decode cX11_copy 18 = .ok (.iload_n 3, 1) := by decide +kernel
theorem dX11_copy_19 : decode cX11_copy 19 = .ok (.iadd, 1) := by decide +kernel
theorem dX11_copy_20 : decode cX11_copy 20 = .ok (.aload_n 0, 1) := by decide +kernel
theorem dX11_copy_21 : decode cX11_copy 21 = .ok (.getfield 35, 3) := by decide +kernel
theorem dX11_copy_24 : decode cX11_copy 24 = .ok (.sipush 410, 3) := by decide +kernel
theorem dX11_copy_27 : decode cX11_copy 27 = .ok (.iload_n 1, 1) := by decide +kernel
theorem dX11_copy_28 : decode cX11_copy 28 = .ok (.imul, 1) := by decide +kernel
theorem dX11_copy_29 : decode cX11_copy 29 = .ok (.iload_n 3, 1) := by decide +kernel
theorem dX11_copy_30 : decode cX11_copy 30 = .ok (.iadd, 1) := by decide +kernel
theorem dX11_copy_31 : decode cX11_copy 31 = .ok (.iaload, 1) := by decide +kernel
theorem dX11_copy_32 : decode cX11_copy 32 = .ok (.iastore, 1) := by decide +kernel
theorem dX11_copy_33 : decode cX11_copy 33 = .ok (.iinc 3 1, 3) := by decide +kernel
theorem dX11_copy_36 : decode cX11_copy 36 = .ok (.goto (-34), 3) := by decide +kernel
theorem dX11_copy_39 : decode cX11_copy 39 = .ok (.iconst 0, 1) := by decide +kernel
theorem dX11_copy_40 : decode cX11_copy 40 = .ok (.istore_n 3, 1) := by decide +kernel
theorem dX11_copy_41 : decode cX11_copy 41 = .ok (.iload_n 3, 1) := by decide +kernel
theorem dX11_copy_42 : decode cX11_copy 42 = .ok (.bipush 20, 2) := by decide +kernel
theorem dX11_copy_44 : decode cX11_copy 44 = .ok (.if_icmp .ge 31, 3) := by decide +kernel
theorem dX11_copy_47 : decode cX11_copy 47 = .ok (.aload_n 0, 1) := by decide +kernel
theorem dX11_copy_48 : decode cX11_copy 48 = .ok (.getfield 41, 3) := by decide +kernel
theorem dX11_copy_51 : decode cX11_copy 51 = .ok (.bipush 20, 2) := by decide +kernel
theorem dX11_copy_53 : decode cX11_copy 53 = .ok (.iload_n 2, 1) := by decide +kernel
theorem dX11_copy_54 : decode cX11_copy 54 = .ok (.imul, 1) := by decide +kernel
theorem dX11_copy_55 : decode cX11_copy 55 = .ok (.iload_n 3, 1) := by decide +kernel
theorem dX11_copy_56 : decode cX11_copy 56 = .ok (.iadd, 1) := by decide +kernel
theorem dX11_copy_57 : decode cX11_copy 57 = .ok (.aload_n 0, 1) := by decide +kernel
theorem dX11_copy_58 : decode cX11_copy 58 = .ok (.getfield 41, 3) := by decide +kernel
theorem dX11_copy_61 : decode cX11_copy 61 = .ok (.bipush 20, 2) := by decide +kernel
theorem dX11_copy_63 : decode cX11_copy 63 = .ok (.iload_n 1, 1) := by decide +kernel
theorem dX11_copy_64 : decode cX11_copy 64 = .ok (.imul, 1) := by decide +kernel
theorem dX11_copy_65 : decode cX11_copy 65 = .ok (.iload_n 3, 1) := by decide +kernel
theorem dX11_copy_66 : decode cX11_copy 66 = .ok (.iadd, 1) := by decide +kernel
theorem dX11_copy_67 : decode cX11_copy 67 = .ok (.laload, 1) := by decide +kernel
theorem dX11_copy_68 : decode cX11_copy 68 = .ok (.lastore, 1) := by decide +kernel
theorem dX11_copy_69 : decode cX11_copy 69 = .ok (.iinc 3 1, 3) := by decide +kernel
theorem dX11_copy_72 : decode cX11_copy 72 = .ok (.goto (-31), 3) := by decide +kernel
theorem dX11_copy_75 : decode cX11_copy 75 = .ok (.return_, 1) := by decide +kernel
theorem dX11_mark_0 : decode cX11_mark 0 = .ok (.aload_n 0, 1) := by decide +kernel
theorem dX11_mark_1 : decode cX11_mark 1 = .ok (.iconst 0, 1) := by decide +kernel
theorem dX11_mark_2 : decode cX11_mark 2 = .ok (.putfield 94, 3) := by decide +kernel
theorem dX11_mark_5 : decode cX11_mark 5 = .ok (.aload_n 0, 1) := by decide +kernel
theorem dX11_mark_6 : decode cX11_mark 6 = .ok (.iconst 0, 1) := by decide +kernel
theorem dX11_mark_7 : decode cX11_mark 7 = .ok (.putfield 97, 3) := by decide +kernel
theorem dX11_mark_10 : decode cX11_mark 10 = .ok (.aload_n 0, 1) := by decide +kernel
theorem dX11_mark_11 : decode cX11_mark 11 = .ok (.getfield 524, 3) := by decide +kernel
theorem dX11_mark_14 : decode cX11_mark 14 = .ok (.iconst 3, 1) := by decide +kernel
theorem dX11_mark_15 : decode cX11_mark 15 = .ok (.if_icmp .ne 10, 3) := by decide +kernel
theorem dX11_mark_18 : decode cX11_mark 18 = .ok (.aload_n 0, 1) := by decide +kernel
theorem dX11_mark_19 : decode cX11_mark 19 = .ok (.bipush 7, 2) := by decide +kernel
theorem dX11_mark_21 : decode cX11_mark 21 = .ok (.invokevirtual 336, 3) := by decide +kernel
theorem dX11_mark_24 : decode cX11_mark 24 = .ok (.ireturn, 1) := by decide +kernel
theorem dX11_mark_25 : decode cX11_mark 25 = .ok (.aload_n 0, 1) := by decide +kernel
theorem dX11_mark_26 : decode cX11_mark 26 = .ok (.dup, 1) := by decide +kernel
theorem dX11_mark_27 : decode cX11_mark 27 = .ok (.getfield 524, 3) := by decide +kernel
theorem dX11_mark_30 : decode cX11_mark 30 = .ok (.iconst 1, 1) := by decide +kernel
theorem dX11_mark_31 : decode cX11_mark 31 = .ok (.iadd, 1) := by decide +kernel
theorem dX11_mark_32 : decode cX11_mark 32 = .ok (.putfield 524, 3) := by decide +kernel
theorem dX11_mark_35 : decode cX11_mark 35 = .ok (.aload_n 0, 1) := by decide +kernel
theorem dX11_mark_36 : decode cX11_mark 36 = .ok (.iconst 0, 1) := by decide +kernel
theorem dX11_mark_37 : decode cX11_mark 37 = .ok (.aload_n 0, 1) := by decide +kernel
theorem dX11_mark_38 : decode cX11_mark 38 = .ok (.getfield 524, 3) := by decide +kernel
theorem dX11_mark_41 : decode cX11_mark 41 = .ok (.invokevirtual 315, 3) := by decide +kernel
theorem dX11_mark_44 : decode cX11_mark 44 = .ok (.aload_n 0, 1) := by decide +kernel
theorem dX11_mark_45 : decode cX11_mark 45 = .ok (.getfield 524, 3) := by decide +kernel
theorem dX11_mark_48 : decode cX11_mark 48 = .ok (.ireturn, 1) := by decide +kernel
theorem dX11_back_0 : decode cX11_back 0 = .ok (.aload_n 0, 1) := by decide +kernel
theorem dX11_back_1 : decode cX11_back 1 = .ok (.iconst 0, 1) := by decide +kernel
theorem dX11_back_2 : decode cX11_back 2 = .ok (.putfield 94, 3) := by decide +kernel
theorem dX11_back_5 : decode cX11_back 5 = .ok (.aload_n 0, 1) := by decide +kernel
theorem dX11_back_6 : decode cX11_back 6 = .ok (.iconst 0, 1) := by decide +kernel
theorem dX11_back_7 : decode cX11_back 7 = .ok (.putfield 97, 3) := by decide +kernel
theorem dX11_back_10 : decode cX11_back 10 = .ok (.aload_n 0, 1) := by decide +kernel
theorem dX11_back_11 : decode cX11_back 11 = .ok (.getfield 524, 3) := by decide +kernel
theorem dX11_back_14 : decode cX11_back 14 = .ok (.ifCond .ne 10, 3) := by decide +kernel
theorem dX11_back_17 : decode cX11_back 17 = .ok (.aload_n 0, 1) := by decide +kernel
theorem dX11_back_18 : decode cX11_back 18 = .ok (.bipush 8, 2) := by decide +kernel
theorem dX11_back_20 : decode cX11_back 20 = .ok (.invokevirtual 336, 3) := by decide +kernel
theorem dX11_back_23 : decode cX11_back 23 = .ok (.ireturn, 1) := by decide +kernel
theorem dX11_back_24 : decode cX11_back 24 = .ok (.aload_n 0, 1) := by decide +kernel
theorem dX11_back_25 : decode cX11_back 25 = .ok (.aload_n 0, 1) := by decide +kernel
theorem dX11_back_26 : decode cX11_back 26 = .ok (.getfield 524, 3) := by decide +kernel
theorem dX11_back_29 : decode cX11_back 29 = .ok (.iconst 0, 1) := by decide +kernel
theorem dX11_back_30 : decode cX11_back 30 = .ok (.invokevirtual 315, 3) := by decide +kernel
theorem dX11_back_33 : decode cX11_back 33 = .ok (.aload_n 0, 1) := by decide +kernel
theorem dX11_back_34 : decode cX11_back 34 = .ok (.dup, 1) := by decide +kernel
theorem dX11_back_35 : decode cX11_back 35 = .ok (.getfield 524, 3) := by decide +kernel
theorem dX11_back_38 : decode cX11_back 38 = .ok (.iconst 1, 1) := by decide +kernel
theorem dX11_back_39 : decode cX11_back 39 = .ok (.isub, 1) := by decide +kernel
theorem dX11_back_40 : decode cX11_back 40 = .ok (.putfield 524, 3) := by decide +kernel
theorem dX11_back_43 : decode cX11_back 43 = .ok (.aload_n 0, 1) := by decide +kernel
theorem dX11_back_44 : decode cX11_back 44 = .ok (.getfield 524, 3) := by decide +kernel
theorem dX11_back_47 : decode cX11_back 47 = .ok (.ireturn, 1) := by decide +kernel
