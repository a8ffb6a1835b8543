theorem dX10_init_0 : decode cX10_init 0 = .ok (.aload_n 0, 1) := by decide +kernel
theorem dX10_init_1 : decode cX10_init 1 = .ok (.invokespecial 1, 3) := by decide +kernel
theorem dX10_init_4 : decode cX10_init 4 = .ok (.aload_n 0, 1) := by decide +kernel
theorem dX10_init_5 : decode cX10_init 5 = .ok (.iconst 4, 1) := by decide +kernel
theorem dX10_init_6 : decode cX10_init 6 = .ok (.anewarray 9, 3) := by decide +kernel
theorem dX10_init_9 : decode cX10_init 9 = .ok (.putfield 11, 3) := by decide +kernel
theorem dX10_init_12 : decode cX10_init 12 = .ok (.iconst 0, 1) := by decide +kernel
theorem dX10_init_13 : decode cX10_init 13 = .ok (.istore_n 1, 1) := by decide +kernel
theorem dX10_init_14 : decode cX10_init 14 = .ok (.iload_n 1, 1) := by decide +kernel
theorem dX10_init_15 : decode cX10_init 15 = .ok (.iconst 4, 1) := by decide +kernel
theorem dX10_init_16 : decode cX10_init 16 = .ok (.if_icmp .ge 22, 3) := by decide +kernel
theorem dX10_init_19 : decode cX10_init 19 = .ok (.aload_n 0, 1) := by decide +kernel
theorem dX10_init_20 : decode cX10_init 20 = .ok (.getfield 11, 3) := by decide +kernel
theorem dX10_init_23 : decode cX10_init 23 = .ok (.iload_n 1, 1) := by decide +kernel
theorem dX10_init_24 : decode cX10_init 24 = .ok (.new 9, 3) := by decide +kernel
theorem dX10_init_27 : decode cX10_init 27 = .ok (.dup, 1) := by decide +kernel
theorem dX10_init_28 : decode cX10_init 28 = .ok (.invokespecial 15, 3) := by decide +kernel
theorem dX10_init_31 : decode cX10_init 31 = .ok (.aastore, 1) := by decide +kernel
theorem dX10_init_32 : decode cX10_init 32 = .ok (.iinc 1 1, 3) := by decide +kernel
theorem dX10_init_35 : decode cX10_init 35 = .ok (.goto (-21), 3) := by decide +kernel
theorem dX10_init_38 : decode cX10_init 38 = .ok (.aload_n 0, 1) := by decide +kernel
theorem dX10_init_39 : decode cX10_init 39 = .ok (.iconst 3, 1) := by decide +kernel
theorem dX10_init_40 : decode cX10_init 40 = .ok (.anewarray 16, 3) := by decide +kernel
theorem dX10_init_43 : decode cX10_init 43 = .ok (.putfield 18, 3) := by decide +kernel
theorem dX10_init_46 : decode cX10_init 46 = .ok (.iconst 0, 1) := by decide +kernel
theorem dX10_init_47 : decode cX10_init 47 = .ok (.istore_n 1, 1) := by decide +kernel
theorem dX10_init_48 : decode cX10_init 48 = .ok (.iload_n 1, 1) := by decide +kernel
theorem dX10_init_49 : decode cX10_init 49 = .ok (.iconst 3, 1) := by decide +kernel
theorem dX10_init_50 : decode cX10_init 50 = .ok (.if_icmp .ge 22, 3) := by decide +kernel
theorem dX10_init_53 : decode cX10_init 53 = .ok (.aload_n 0, 1) := by decide +kernel
theorem dX10_init_54 : decode cX10_init 54 = .ok (.getfield 18, 3) := by decide +kernel
theorem dX10_init_57 : decode cX10_init 57 = .ok (.iload_n 1, 1) := by decide +kernel
theorem dX10_init_58 : decode cX10_init 58 = .ok (.new 16, 3) := by decide +kernel
theorem dX10_init_61 : decode cX10_init 61 = .ok (.dup, 1) := by decide +kernel
theorem dX10_init_62 : decode cX10_init 62 = .ok (.invokespecial 22, 3) := by decide +kernel
theorem dX10_init_65 : decode cX10_init 65 = .ok (.aastore, 1) := by decide +kernel
theorem dX10_init_66 : decode cX10_init 66 = .ok (.iinc 1 1, 3) := by decide +kernel
theorem dX10_init_69 : decode cX10_init 69 = .ok (.goto (-21), 3) := by decide +kernel
theorem dX10_init_72 : decode cX10_init 72 = .ok (.aload_n 0, 1) := by decide +kernel
theorem dX10_init_73 : decode cX10_init 73 = .ok (.new 23, 3) := by decide +kernel
theorem dX10_init_76 : decode cX10_init 76 = .ok (.dup, 1) := by decide +kernel
theorem dX10_init_77 : decode cX10_init 77 = .ok (.invokespecial 25, 3) := by decide +kernel
theorem dX10_init_80 : decode cX10_init 80 = .ok (.putfield 26, 3) := by decide +kernel
theorem dX10_init_83 : decode cX10_init 83 = .ok (.aload_n 0, 1) := by decide +kernel
theorem dX10_init_84 : decode cX10_init 84 = .ok (.new 16, 3) := by decide +kernel
theorem dX10_init_87 : decode cX10_init 87 = .ok (.dup, 1) := by decide +kernel
theorem dX10_init_88 : decode cX10_init 88 = .ok (.invokespecial 22, 3) := by decide +kernel
theorem dX10_init_91 : decode cX10_init 91 = .ok (.putfield 30, 3) := by decide +kernel
theorem dX10_init_94 : decode cX10_init 94 = .ok (.aload_n 0, 1) := by decide +kernel
theorem dX10_init_95 : decode cX10_init 95 = .ok (.new 34, 3) := by decide +kernel
theorem dX10_init_98 : decode cX10_init 98 = .ok (.dup, 1) := by decide +kernel
theorem dX10_init_99 : decode cX10_init 99 = .ok (.invokespecial 36, 3) := by decide +kernel
theorem dX10_init_102 : decode cX10_init 102 = .ok (.putfield 37, 3) := by decide +kernel
theorem dX10_init_105 : decode cX10_init 105 = .ok (.aload_n 0, 1) := by decide +kernel
theorem dX10_init_106 : decode cX10_init 106 = .ok (.new 34, 3) := by decide +kernel
theorem dX10_init_109 : decode cX10_init 109 = .ok (.dup, 1) := by decide +kernel
theorem dX10_init_110 : decode cX10_init 110 = .ok (.invokespecial 36, 3) := by decide +kernel
theorem dX10_init_113 : decode cX10_init 113 = .ok (.putfield 41, 3) := by decide +kernel
theorem dX10_init_116 : decode cX10_init 116 = .ok (.aload_n 0, 1) := by decide +kernel
theorem dX10_init_117 : decode cX10_init 117 = .ok (.new 44, 3) := by decide +kernel
theorem dX10_init_120 : decode cX10_init 120 = .ok (.dup, 1) := by decide +kernel
theorem dX10_init_121 : decode cX10_init 121 = .ok (.invokespecial 46, 3) := by decide +kernel
theorem dX10_init_124 : decode cX10_init 124 = .ok (.putfield 47, 3) := by decide +kernel
theorem dX10_init_127 : decode cX10_init 127 = .ok (.aload_n 0, 1) := by decide +kernel
theorem dX10_init_128 : decode cX10_init 128 = .ok (.new 51, 3) := by decide +kernel
theorem dX10_init_131 : decode cX10_init 131 = .ok (.dup, 1) := by decide +kernel
theorem dX10_init_132 : decode cX10_init 132 = .ok (.invokespecial 53, 3) := by decide +kernel
theorem dX10_init_135 : decode cX10_init 135 = .ok (.putfield 54, 3) := by decide +kernel
theorem dX10_init_138 : decode cX10_init 138 = .ok (.aload_n 0, 1) := by decide +kernel
theorem dX10_init_139 : decode cX10_init 139 = .ok (.new 16, 3) := by decide +kernel
theorem dX10_init_142 : decode cX10_init 142 = .ok (.dup, 1) := by decide +kernel
theorem dX10_init_143 : decode cX10_init 143 = .ok (.invokespecial 22, 3) := by decide +kernel
theorem dX10_init_146 : decode cX10_init 146 = .ok (.putfield 58, 3) := by decide +kernel
theorem dX10_init_149 : decode cX10_init 149 = .ok (.aload_n 0, 1) := by decide +kernel
theorem dX10_init_150 : decode cX10_init 150 = .ok (.new 16, 3) := by decide +kernel
theorem dX10_init_153 : decode cX10_init 153 = .ok (.dup, 1) := by decide +kernel
theorem dX10_init_154 : decode cX10_init 154 = .ok (.invokespecial 22, 3) := by decide +kernel
theorem dX10_init_157 : decode cX10_init 157 = .ok (.putfield 61, 3) := by decide +kernel
theorem dX10_init_160 : decode cX10_init 160 = .ok (.aload_n 0, 1) := by decide +kernel
theorem dX10_init_161 : decode cX10_init 161 = .ok (.new 64, 3) := by decide +kernel
theorem dX10_init_164 : decode cX10_init 164 = .ok (.dup, 1) := by decide +kernel
theorem dX10_init_165 : decode cX10_init 165 = .ok (.invokespecial 66, 3) := by decide +kernel
theorem dX10_init_168 : decode cX10_init 168 = .ok (.putfield 67, 3) := by decide +kernel
theorem dX10_init_171 : decode cX10_init 171 = .ok (.aload_n 0, 1) := by decide +kernel
theorem dX10_init_172 : decode cX10_init 172 = .ok (.lconst 1, 1) := by decide +kernel
theorem dX10_init_173 : decode cX10_init 173 = .ok (.putfield 71, 3) := by decide +kernel
theorem dX10_init_176 : decode cX10_init 176 = .ok (.aload_n 0, 1) := by decide +kernel
theorem dX10_init_177 : decode cX10_init 177 = .ok (.iconst (-1), 1) := by decide +kernel
theorem dX10_init_178 : decode cX10_init 178 = .ok (.putfield 75, 3) := by decide +kernel
theorem dX10_init_181 : decode cX10_init 181 = .ok (.aload_n 0, 1) := by decide +kernel
theorem dX10_init_182 : decode cX10_init 182 = .ok (.iconst (-1), 1) := by decide +kernel
theorem dX10_init_183 : decode cX10_init 183 = .ok (.putfield 79, 3) := by decide +kernel
theorem dX10_init_186 : decode cX10_init 186 = .ok (.return_, 1) := by decide +kernel
theorem dX10_status_0 : decode cX10_status 0 = .ok (.aload_n 0, 1) := by decide +kernel
theorem dX10_status_1 : decode cX10_status 1 = .ok (.getfield 82, 3) := by decide +kernel
theorem dX10_status_4 : decode cX10_status 4 = .ok (.ireturn, 1) := by decide +kernel
theorem dX10_top_0 : decode cX10_top 0 = .ok (.aload_n 0, 1) := by decide +kernel
theorem dX10_top_1 : decode cX10_top 1 = .ok (.getfield 85, 3) := by decide +kernel
theorem dX10_top_4 : decode cX10_top 4 = .ok (.lreturn, 1) := by decide +kernel
theorem dX10_bottom_0 : decode cX10_bottom 0 = .ok (.aload_n 0, 1) := by decide +kernel
theorem dX10_bottom_1 : decode cX10_bottom 1 = .ok (.getfield 71, 3) := by decide +kernel
theorem dX10_bottom_4 : decode cX10_bottom 4 = .ok (.lreturn, 1) := by decide +kernel
theorem dX10_tray_0 : decode cX10_tray 0 = .ok (.iload_n 1, 1) := by decide +kernel
theorem dX10_tray_1 : decode cX10_tray 1 = .ok (.invokestatic 88, 3) := by decide +kernel
theorem dX10_tray_4 : decode cX10_tray 4 = .ok (.ifCond .eq 12, 3) := by decide +kernel
theorem dX10_tray_7 : decode cX10_tray 7 = .ok (.iload_n 2, 1) := by decide +kernel
theorem dX10_tray_8 : decode cX10_tray 8 = .ok (.ifCond .lt 8, 3) := by decide +kernel
theorem dX10_tray_11 : decode cX10_tray 11 = .ok (.iload_n 2, 1) := by decide +kernel
theorem dX10_tray_12 : decode cX10_tray 12 = .ok (.iconst 4, 1) := by decide +kernel
theorem dX10_tray_13 : decode cX10_tray 13 = .ok (.if_icmp .lt 9, 3) := by decide +kernel
theorem dX10_tray_16 : decode cX10_tray 16 = .ok (.aload_n 0, 1) := by decide +kernel
theorem dX10_tray_17 : decode cX10_tray 17 = .ok (.iconst 1, 1) := by decide +kernel
theorem dX10_tray_18 : decode cX10_tray 18 = .ok (.invokevirtual 92, 3) := by decide +kernel
theorem dX10_tray_21 : decode cX10_tray 21 = .ok (.ireturn, 1) := by decide +kernel
theorem dX10_tray_22 : decode cX10_tray 22 = .ok (.iload_n 3, 1) := by decide +kernel
theorem dX10_tray_23 : decode cX10_tray 23 = .ok (.bipush 60, 2) := by decide +kernel
theorem dX10_tray_25 : decode cX10_tray 25 = .ok (.if_icmp .le 9, 3) := by decide +kernel
theorem dX10_tray_28 : decode cX10_tray 28 = .ok (.aload_n 0, 1) := by decide +kernel
theorem dX10_tray_29 : decode cX10_tray 29 = .ok (.iconst 5, 1) := by decide +kernel
theorem dX10_tray_30 : decode cX10_tray 30 = .ok (.invokevirtual 92, 3) := by decide +kernel
theorem dX10_tray_33 : decode cX10_tray 33 = .ok (.ireturn, 1) := by decide +kernel
theorem dX10_tray_34 : decode cX10_tray 34 = .ok (.iload_n 3, 1) := by decide +kernel
theorem dX10_tray_35 : decode cX10_tray 35 = .ok (.ifCond .ge 10, 3) := by decide +kernel
theorem dX10_tray_38 : decode cX10_tray 38 = .ok (.aload_n 0, 1) := by decide +kernel
theorem dX10_tray_39 : decode cX10_tray 39 = .ok (.bipush 6, 2) := by decide +kernel
theorem dX10_tray_41 : decode cX10_tray 41 = .ok (.invokevirtual 92, 3) := by decide +kernel
theorem dX10_tray_44 : decode cX10_tray 44 = .ok (.ireturn, 1) := by decide +kernel
theorem dX10_tray_45 : decode cX10_tray 45 = .ok (.aload_n 0, 1) := by decide +kernel
theorem dX10_tray_46 : decode cX10_tray 46 = .ok (.getfield 11, 3) := by decide +kernel
theorem dX10_tray_49 : decode cX10_tray 49 = .ok (.iload_n 1, 1) := by decide +kernel
theorem dX10_tray_50 : decode cX10_tray 50 = .ok (.aaload, 1) := by decide +kernel
theorem dX10_tray_51 : decode cX10_tray 51 = .ok (.iload_n 2, 1) := by decide +kernel
theorem dX10_tray_52 : decode cX10_tray 52 = .ok (.iload_n 3, 1) := by decide +kernel
theorem dX10_tray_53 : decode cX10_tray 53 = .ok (.invokevirtual 95, 3) := by decide +kernel
theorem dX10_tray_56 : decode cX10_tray 56 = .ok (.aload_n 0, 1) := by decide +kernel
theorem dX10_tray_57 : decode cX10_tray 57 = .ok (.invokevirtual 99, 3) := by decide +kernel
theorem dX10_tray_60 : decode cX10_tray 60 = .ok (.ireturn, 1) := by decide +kernel
theorem dX10_write_0 : decode cX10_write 0 = .ok (.aload_n 0, 1) := by decide +kernel
theorem dX10_write_1 : decode cX10_write 1 = .ok (.iload_n 1, 1) := by decide +kernel
theorem dX10_write_2 : decode cX10_write 2 = .ok (.iload_n 2, 1) := by decide +kernel
theorem dX10_write_3 : decode cX10_write 3 = .ok (.invokevirtual 103, 3) := by decide +kernel
theorem dX10_write_6 : decode cX10_write 6 = .ok (.istore 5, 2) := by decide +kernel
theorem dX10_write_8 : decode cX10_write 8 = .ok (.iload 5, 2) := by decide +kernel
theorem dX10_write_10 : decode cX10_write 10 = .ok (.ifCond .eq 10, 3) := by decide +kernel
theorem dX10_write_13 : decode cX10_write 13 = .ok (.aload_n 0, 1) := by decide +kernel
theorem dX10_write_14 : decode cX10_write 14 = .ok (.iload 5, 2) := by decide +kernel
theorem dX10_write_16 : decode cX10_write 16 = .ok (.invokevirtual 92, 3) := by decide +kernel
theorem dX10_write_19 : decode cX10_write 19 = .ok (.ireturn, 1) := by decide +kernel
theorem dX10_write_20 : decode cX10_write 20 = .ok (.aload_n 0, 1) := by decide +kernel
theorem dX10_write_21 : decode cX10_write 21 = .ok (.getfield 11, 3) := by decide +kernel
theorem dX10_write_24 : decode cX10_write 24 = .ok (.iload_n 1, 1) := by decide +kernel
theorem dX10_write_25 : decode cX10_write 25 = .ok (.aaload, 1) := by decide +kernel
theorem dX10_write_26 : decode cX10_write 26 = .ok (.iload_n 2, 1) := by decide +kernel
theorem dX10_write_27 : decode cX10_write 27 = .ok (.lload_n 3, 1) := by decide +kernel
theorem dX10_write_28 : decode cX10_write 28 = .ok (.invokevirtual 107, 3) := by decide +kernel
theorem dX10_write_31 : decode cX10_write 31 = .ok (.aload_n 0, 1) := by decide +kernel
theorem dX10_write_32 : decode cX10_write 32 = .ok (.invokevirtual 99, 3) := by decide +kernel
theorem dX10_write_35 : decode cX10_write 35 = .ok (.ireturn, 1) := by decide +kernel
theorem dX10_read_0 : decode cX10_read 0 = .ok (.aload_n 0, 1) := by decide +kernel
theorem dX10_read_1 : decode cX10_read 1 = .ok (.iload_n 1, 1) := by decide +kernel
theorem dX10_read_2 : decode cX10_read 2 = .ok (.iload_n 2, 1) := by decide +kernel
theorem dX10_read_3 : decode cX10_read 3 = .ok (.invokevirtual 103, 3) := by decide +kernel
theorem dX10_read_6 : decode cX10_read 6 = .ok (.istore_n 3, 1) := by decide +kernel
theorem dX10_read_7 : decode cX10_read 7 = .ok (.iload_n 3, 1) := by decide +kernel
theorem dX10_read_8 : decode cX10_read 8 = .ok (.ifCond .eq 10, 3) := by decide +kernel
theorem dX10_read_11 : decode cX10_read 11 = .ok (.aload_n 0, 1) := by decide +kernel
theorem dX10_read_12 : decode cX10_read 12 = .ok (.iload_n 3, 1) := by decide +kernel
theorem dX10_read_13 : decode cX10_read 13 = .ok (.invokevirtual 111, 3) := by decide +kernel
theorem dX10_read_16 : decode cX10_read 16 = .ok (.i2l, 1) := by decide +kernel
theorem dX10_read_17 : decode cX10_read 17 = .ok (.lreturn, 1) := by decide +kernel
theorem dX10_read_18 : decode cX10_read 18 = .ok (.aload_n 0, 1) := by decide +kernel
theorem dX10_read_19 : decode cX10_read 19 = .ok (.iconst 0, 1) := by decide +kernel
theorem dX10_read_20 : decode cX10_read 20 = .ok (.putfield 82, 3) := by decide +kernel
theorem dX10_read_23 : decode cX10_read 23 = .ok (.aload_n 0, 1) := by decide +kernel
theorem dX10_read_24 : decode cX10_read 24 = .ok (.getfield 11, 3) := by decide +kernel
theorem dX10_read_27 : decode cX10_read 27 = .ok (.iload_n 1, 1) := by decide +kernel
theorem dX10_read_28 : decode cX10_read 28 = .ok (.aaload, 1) := by decide +kernel
theorem dX10_read_29 : decode cX10_read 29 = .ok (.getfield 115, 3) := by decide +kernel
theorem dX10_read_32 : decode cX10_read 32 = .ok (.iload_n 2, 1) := by decide +kernel
theorem dX10_read_33 : decode cX10_read 33 = .ok (.laload, 1) := by decide +kernel
theorem dX10_read_34 : decode cX10_read 34 = .ok (.lreturn, 1) := by decide +kernel
theorem dX10_pour_0 : decode cX10_pour 0 = .ok (.iload_n 1, 1) := by decide +kernel
theorem dX10_pour_1 : decode cX10_pour 1 = .ok (.invokestatic 88, 3) := by decide +kernel
theorem dX10_pour_4 : decode cX10_pour 4 = .ok (.ifCond .eq 10, 3) := by decide +kernel
theorem dX10_pour_7 : decode cX10_pour 7 = .ok (.iload_n 3, 1) := by decide +kernel
theorem dX10_pour_8 : decode cX10_pour 8 = .ok (.invokestatic 88, 3) := by decide +kernel
theorem dX10_pour_11 : decode cX10_pour 11 = .ok (.ifCond .ne 9, 3) := by decide +kernel
theorem dX10_pour_14 : decode cX10_pour 14 = .ok (.aload_n 0, 1) := by decide +kernel
theorem dX10_pour_15 : decode cX10_pour 15 = .ok (.iconst 1, 1) := by decide +kernel
theorem dX10_pour_16 : decode cX10_pour 16 = .ok (.invokevirtual 92, 3) := by decide +kernel
theorem dX10_pour_19 : decode cX10_pour 19 = .ok (.ireturn, 1) := by decide +kernel
theorem dX10_pour_20 : decode cX10_pour 20 = .ok (.aload_n 0, 1) := by decide +kernel
theorem dX10_pour_21 : decode cX10_pour 21 = .ok (.getfield 11, 3) := by decide +kernel
theorem dX10_pour_24 : decode cX10_pour 24 = .ok (.iload_n 1, 1) := by decide +kernel
theorem dX10_pour_25 : decode cX10_pour 25 = .ok (.aaload, 1) := by decide +kernel
theorem dX10_pour_26 : decode cX10_pour 26 = .ok (.astore 6, 2) := by decide +kernel
theorem dX10_pour_28 : decode cX10_pour 28 = .ok (.aload_n 0, 1) := by decide +kernel
theorem dX10_pour_29 : decode cX10_pour 29 = .ok (.getfield 11, 3) := by decide +kernel
theorem dX10_pour_32 : decode cX10_pour 32 = .ok (.iload_n 3, 1) := by decide +kernel
theorem dX10_pour_33 : decode cX10_pour 33 = .ok (.aaload, 1) := by decide +kernel
theorem dX10_pour_34 : decode cX10_pour 34 = .ok (.astore 7, 2) := by decide +kernel
theorem dX10_pour_36 : decode cX10_pour 36 = .ok (.aload 6, 2) := by decide +kernel
theorem dX10_pour_38 : decode cX10_pour 38 = .ok (.getfield 119, 3) := by decide +kernel
theorem dX10_pour_41 : decode cX10_pour 41 = .ok (.ifCond .eq 11, 3) := by decide +kernel
theorem dX10_pour_44 : decode cX10_pour 44 = .ok (.aload 7, 2) := by decide +kernel
theorem dX10_pour_46 : decode cX10_pour 46 = .ok (.getfield 119, 3) := by decide +kernel
theorem dX10_pour_49 : decode cX10_pour 49 = .ok (.ifCond .ne 9, 3) := by decide +kernel
theorem dX10_pour_52 : decode cX10_pour 52 = .ok (.aload_n 0, 1) := by decide +kernel
theorem dX10_pour_53 : decode cX10_pour 53 = .ok (.iconst 3, 1) := by decide +kernel
theorem dX10_pour_54 : decode cX10_pour 54 = .ok (.invokevirtual 92, 3) := by decide +kernel
theorem dX10_pour_57 : decode cX10_pour 57 = .ok (.ireturn, 1) := by decide +kernel
theorem dX10_pour_58 : decode cX10_pour 58 = .ok (.aload 6, 2) := by decide +kernel
theorem dX10_pour_60 : decode cX10_pour 60 = .ok (.getfield 123, 3) := by decide +kernel
theorem dX10_pour_63 : decode cX10_pour 63 = .ok (.aload 7, 2) := by decide +kernel
theorem dX10_pour_65 : decode cX10_pour 65 = .ok (.getfield 123, 3) := by decide +kernel
theorem dX10_pour_68 : decode cX10_pour 68 = .ok (.if_icmp .eq 10, 3) := by decide +kernel
theorem dX10_pour_71 : decode cX10_pour 71 = .ok (.aload_n 0, 1) := by decide +kernel
theorem dX10_pour_72 : decode cX10_pour 72 = .ok (.bipush 11, 2) := by decide +kernel
theorem dX10_pour_74 : decode cX10_pour 74 = .ok (.invokevirtual 92, 3) := by decide +kernel
theorem dX10_pour_77 : decode cX10_pour 77 = .ok (.ireturn, 1) := by decide +kernel
theorem dX10_pour_78 : decode cX10_pour 78 = .ok (.iload 5, 2) := by decide +kernel
theorem dX10_pour_80 : decode cX10_pour 80 = .ok (.ifCond .ge 10, 3) := by decide +kernel
theorem dX10_pour_83 : decode cX10_pour 83 = .ok (.aload_n 0, 1) := by decide +kernel
theorem dX10_pour_84 : decode cX10_pour 84 = .ok (.bipush 6, 2) := by decide +kernel
theorem dX10_pour_86 : decode cX10_pour 86 = .ok (.invokevirtual 92, 3) := by decide +kernel
theorem dX10_pour_89 : decode cX10_pour 89 = .ok (.ireturn, 1) := by decide +kernel
theorem dX10_pour_90 : decode cX10_pour 90 = .ok (.aload 6, 2) := by decide +kernel
theorem dX10_pour_92 : decode cX10_pour 92 = .ok (.iload_n 2, 1) := by decide +kernel
theorem dX10_pour_93 : decode cX10_pour 93 = .ok (.iload 5, 2) := by decide +kernel
theorem dX10_pour_95 : decode cX10_pour 95 = .ok (.invokevirtual 126, 3) := by decide +kernel
theorem dX10_pour_98 : decode cX10_pour 98 = .ok (.ifCond .eq 15, 3) := by decide +kernel
theorem dX10_pour_101 : decode cX10_pour 101 = .ok (.aload 7, 2) := by decide +kernel
theorem dX10_pour_103 : decode cX10_pour 103 = .ok (.iload 4, 2) := by decide +kernel
theorem dX10_pour_105 : decode cX10_pour 105 = .ok (.iload 5, 2) := by decide +kernel
theorem dX10_pour_107 : decode cX10_pour 107 = .ok (.invokevirtual 126, 3) := by decide +kernel
theorem dX10_pour_110 : decode cX10_pour 110 = .ok (.ifCond .ne 9, 3) := by decide +kernel
theorem dX10_pour_113 : decode cX10_pour 113 = .ok (.aload_n 0, 1) := by decide +kernel
theorem dX10_pour_114 : decode cX10_pour 114 = .ok (.iconst 4, 1) := by decide +kernel
theorem dX10_pour_115 : decode cX10_pour 115 = .ok (.invokevirtual 92, 3) := by decide +kernel
theorem dX10_pour_118 : decode cX10_pour 118 = .ok (.ireturn, 1) := by decide +kernel
theorem dX10_pour_119 : decode cX10_pour 119 = .ok (.aload 6, 2) := by decide +kernel
theorem dX10_pour_121 : decode cX10_pour 121 = .ok (.getfield 115, 3) := by decide +kernel
theorem dX10_pour_124 : decode cX10_pour 124 = .ok (.iload_n 2, 1) := by decide +kernel
theorem dX10_pour_125 : decode cX10_pour 125 = .ok (.aload 7, 2) := by decide +kernel
theorem dX10_pour_127 : decode cX10_pour 127 = .ok (.getfield 115, 3) := by decide +kernel
theorem dX10_pour_130 : decode cX10_pour 130 = .ok (.iload 4, 2) := by decide +kernel
theorem dX10_pour_132 : decode cX10_pour 132 = .ok (.iload 5, 2) := by decide +kernel
theorem dX10_pour_134 : decode cX10_pour 134 = .ok (.invokestatic 130, 3) := by decide +kernel
theorem dX10_pour_137 : decode cX10_pour 137 = .ok (.aload_n 0, 1) := by decide +kernel
theorem dX10_pour_138 : decode cX10_pour 138 = .ok (.invokevirtual 99, 3) := by decide +kernel
theorem dX10_pour_141 : decode cX10_pour 141 = .ok (.ireturn, 1) := by decide +kernel
theorem dX10_feed_0 : decode cX10_feed 0 = .ok (.aload_n 0, 1) := by decide +kernel
theorem dX10_feed_1 : decode cX10_feed 1 = .ok (.getfield 26, 3) := by decide +kernel
theorem dX10_feed_4 : decode cX10_feed 4 = .ok (.getfield 136, 3) := by decide +kernel
theorem dX10_feed_7 : decode cX10_feed 7 = .ok (.bipush 20, 2) := by decide +kernel
theorem dX10_feed_9 : decode cX10_feed 9 = .ok (.iadd, 1) := by decide +kernel
theorem dX10_feed_10 : decode cX10_feed 10 = .ok (.sipush 900, 3) := by decide +kernel
theorem dX10_feed_13 : decode cX10_feed 13 = .ok (.if_icmp .le 5, 3) := by decide +kernel
theorem dX10_feed_16 : decode cX10_feed 16 = .ok (.iconst (-1), 1) := by decide +kernel
theorem dX10_feed_17 : decode cX10_feed 17 = .ok (.ireturn, 1) := by decide +kernel
theorem dX10_feed_18 : decode cX10_feed 18 = .ok (.aload_n 0, 1) := by decide +kernel
theorem dX10_feed_19 : decode cX10_feed 19 = .ok (.getfield 26, 3) := by decide +kernel
theorem dX10_feed_22 : decode cX10_feed 22 = .ok (.iload_n 1, 1) := by decide +kernel
theorem dX10_feed_23 : decode cX10_feed 23 = .ok (.invokevirtual 139, 3) := by decide +kernel
theorem dX10_feed_26 : decode cX10_feed 26 = .ok (.aload_n 0, 1) := by decide +kernel
theorem dX10_feed_27 : decode cX10_feed 27 = .ok (.getfield 26, 3) := by decide +kernel
theorem dX10_feed_30 : decode cX10_feed 30 = .ok (.iload_n 2, 1) := by decide +kernel
theorem dX10_feed_31 : decode cX10_feed 31 = .ok (.invokevirtual 139, 3) := by decide +kernel
theorem dX10_feed_34 : decode cX10_feed 34 = .ok (.aload_n 0, 1) := by decide +kernel
theorem dX10_feed_35 : decode cX10_feed 35 = .ok (.getfield 26, 3) := by decide +kernel
theorem dX10_feed_38 : decode cX10_feed 38 = .ok (.iload_n 3, 1) := by decide +kernel
theorem dX10_feed_39 : decode cX10_feed 39 = .ok (.invokevirtual 139, 3) := by decide +kernel
theorem dX10_feed_42 : decode cX10_feed 42 = .ok (.aload_n 0, 1) := by decide +kernel
theorem dX10_feed_43 : decode cX10_feed 43 = .ok (.getfield 26, 3) := by decide +kernel
theorem dX10_feed_46 : decode cX10_feed 46 = .ok (.iload 4, 2) := by decide +kernel
theorem dX10_feed_48 : decode cX10_feed 48 = .ok (.invokevirtual 139, 3) := by decide +kernel
theorem dX10_feed_51 : decode cX10_feed 51 = .ok (.aload_n 0, 1) := by decide +kernel
theorem dX10_feed_52 : decode cX10_feed 52 = .ok (.getfield 26, 3) := by decide +kernel
theorem dX10_feed_55 : decode cX10_feed 55 = .ok (.iload 5, 2) := by decide +kernel
theorem dX10_feed_57 : decode cX10_feed 57 = .ok (.invokevirtual 139, 3) := by decide +kernel
theorem dX10_feed_60 : decode cX10_feed 60 = .ok (.aload_n 0, 1) := by decide +kernel
theorem dX10_feed_61 : decode cX10_feed 61 = .ok (.getfield 26, 3) := by decide +kernel
theorem dX10_feed_64 : decode cX10_feed 64 = .ok (.getfield 136, 3) := by decide +kernel
theorem dX10_feed_67 : decode cX10_feed 67 = .ok (.ireturn, 1) := by decide +kernel
theorem dX10_school_0 : decode cX10_school 0 = .ok (.iload_n 1, 1) := by decide +kernel
theorem dX10_school_1 : decode cX10_school 1 = .ok (.ifCond .lt 14, 3) := by decide +kernel
theorem dX10_school_4 : decode cX10_school 4 = .ok (.iload_n 1, 1) := by decide +kernel
theorem dX10_school_5 : decode cX10_school 5 = .ok (.aload_n 0, 1) := by decide +kernel
theorem dX10_school_6 : decode cX10_school 6 = .ok (.getfield 26, 3) := by decide +kernel
theorem dX10_school_9 : decode cX10_school 9 = .ok (.getfield 136, 3) := by decide +kernel
theorem dX10_school_12 : decode cX10_school 12 = .ok (.if_icmp .le 9, 3) := by decide +kernel
theorem dX10_school_15 : decode cX10_school 15 = .ok (.aload_n 0, 1) := by decide +kernel
theorem dX10_school_16 : decode cX10_school 16 = .ok (.iconst 5, 1) := by decide +kernel
theorem dX10_school_17 : decode cX10_school 17 = .ok (.invokevirtual 111, 3) := by decide +kernel
theorem dX10_school_20 : decode cX10_school 20 = .ok (.ireturn, 1) := by decide +kernel
theorem dX10_school_21 : decode cX10_school 21 = .ok (.aload_n 0, 1) := by decide +kernel
theorem dX10_school_22 : decode cX10_school 22 = .ok (.getfield 26, 3) := by decide +kernel
theorem dX10_school_25 : decode cX10_school 25 = .ok (.iload_n 1, 1) := by decide +kernel
theorem dX10_school_26 : decode cX10_school 26 = .ok (.invokevirtual 143, 3) := by decide +kernel
theorem dX10_school_29 : decode cX10_school 29 = .ok (.aload_n 0, 1) := by decide +kernel
theorem dX10_school_30 : decode cX10_school 30 = .ok (.getfield 61, 3) := by decide +kernel
theorem dX10_school_33 : decode cX10_school 33 = .ok (.aload_n 0, 1) := by decide +kernel
theorem dX10_school_34 : decode cX10_school 34 = .ok (.getfield 26, 3) := by decide +kernel
theorem dX10_school_37 : decode cX10_school 37 = .ok (.invokevirtual 146, 3) := by decide +kernel
theorem dX10_school_40 : decode cX10_school 40 = .ok (.aload_n 0, 1) := by decide +kernel
theorem dX10_school_41 : decode cX10_school 41 = .ok (.invokevirtual 150, 3) := by decide +kernel
theorem dX10_school_44 : decode cX10_school 44 = .ok (.aload_n 0, 1) := by decide +kernel
theorem dX10_school_45 : decode cX10_school 45 = .ok (.getfield 75, 3) := by decide +kernel
theorem dX10_school_48 : decode cX10_school 48 = .ok (.ifCond .eq 10, 3) := by decide +kernel
theorem dX10_school_51 : decode cX10_school 51 = .ok (.aload_n 0, 1) := by decide +kernel
theorem dX10_school_52 : decode cX10_school 52 = .ok (.bipush 10, 2) := by decide +kernel
theorem dX10_school_54 : decode cX10_school 54 = .ok (.invokevirtual 111, 3) := by decide +kernel
theorem dX10_school_57 : decode cX10_school 57 = .ok (.ireturn, 1) := by decide +kernel
theorem dX10_school_58 : decode cX10_school 58 = .ok (.aload_n 0, 1) := by decide +kernel
theorem dX10_school_59 : decode cX10_school 59 = .ok (.getfield 58, 3) := by decide +kernel
theorem dX10_school_62 : decode cX10_school 62 = .ok (.astore_n 2, 1) := by decide +kernel
theorem dX10_school_63 : decode cX10_school 63 = .ok (.aload_n 0, 1) := by decide +kernel
theorem dX10_school_64 : decode cX10_school 64 = .ok (.aload_n 0, 1) := by decide +kernel
theorem dX10_school_65 : decode cX10_school 65 = .ok (.getfield 61, 3) := by decide +kernel
theorem dX10_school_68 : decode cX10_school 68 = .ok (.putfield 58, 3) := by decide +kernel
theorem dX10_school_71 : decode cX10_school 71 = .ok (.aload_n 0, 1) := by decide +kernel
theorem dX10_school_72 : decode cX10_school 72 = .ok (.aload_n 2, 1) := by decide +kernel
theorem dX10_school_73 : decode cX10_school 73 = .ok (.putfield 61, 3) := by decide +kernel
theorem dX10_school_76 : decode cX10_school 76 = .ok (.aload_n 0, 1) := by decide +kernel
theorem dX10_school_77 : decode cX10_school 77 = .ok (.aload_n 0, 1) := by decide +kernel
theorem dX10_school_78 : decode cX10_school 78 = .ok (.getfield 58, 3) := by decide +kernel
theorem dX10_school_81 : decode cX10_school 81 = .ok (.getfield 153, 3) := by decide +kernel
theorem dX10_school_84 : decode cX10_school 84 = .ok (.invokevirtual 156, 3) := by decide +kernel
theorem dX10_school_87 : decode cX10_school 87 = .ok (.ireturn, 1) := by decide +kernel
theorem dX10_age_0 : decode cX10_age 0 = .ok (.iload_n 1, 1) := by decide +kernel
theorem dX10_age_1 : decode cX10_age 1 = .ok (.ifCond .lt 21, 3) := by decide +kernel
theorem dX10_age_4 : decode cX10_age 4 = .ok (.iload_n 1, 1) := by decide +kernel
theorem dX10_age_5 : decode cX10_age 5 = .ok (.aload_n 0, 1) := by decide +kernel
theorem dX10_age_6 : decode cX10_age 6 = .ok (.getfield 26, 3) := by decide +kernel
theorem dX10_age_9 : decode cX10_age 9 = .ok (.getfield 136, 3) := by decide +kernel
theorem dX10_age_12 : decode cX10_age 12 = .ok (.if_icmp .gt 10, 3) := by decide +kernel
theorem dX10_age_15 : decode cX10_age 15 = .ok (.iload_n 1, 1) := by decide +kernel
theorem dX10_age_16 : decode cX10_age 16 = .ok (.sipush 300, 3) := by decide +kernel
theorem dX10_age_19 : decode cX10_age 19 = .ok (.if_icmp .le 9, 3) := by decide +kernel
theorem dX10_age_22 : decode cX10_age 22 = .ok (.aload_n 0, 1) := by decide +kernel
theorem dX10_age_23 : decode cX10_age 23 = .ok (.iconst 5, 1) := by decide +kernel
theorem dX10_age_24 : decode cX10_age 24 = .ok (.invokevirtual 111, 3) := by decide +kernel
theorem dX10_age_27 : decode cX10_age 27 = .ok (.ireturn, 1) := by decide +kernel
theorem dX10_age_28 : decode cX10_age 28 = .ok (.aload_n 0, 1) := by decide +kernel
theorem dX10_age_29 : decode cX10_age 29 = .ok (.getfield 26, 3) := by decide +kernel
theorem dX10_age_32 : decode cX10_age 32 = .ok (.iload_n 1, 1) := by decide +kernel
theorem dX10_age_33 : decode cX10_age 33 = .ok (.invokevirtual 143, 3) := by decide +kernel
theorem dX10_age_36 : decode cX10_age 36 = .ok (.aload_n 0, 1) := by decide +kernel
theorem dX10_age_37 : decode cX10_age 37 = .ok (.getfield 67, 3) := by decide +kernel
theorem dX10_age_40 : decode cX10_age 40 = .ok (.aload_n 0, 1) := by decide +kernel
theorem dX10_age_41 : decode cX10_age 41 = .ok (.getfield 26, 3) := by decide +kernel
theorem dX10_age_44 : decode cX10_age 44 = .ok (.aload_n 0, 1) := by decide +kernel
theorem dX10_age_45 : decode cX10_age 45 = .ok (.getfield 58, 3) := by decide +kernel
theorem dX10_age_48 : decode cX10_age 48 = .ok (.invokevirtual 159, 3) := by decide +kernel
theorem dX10_age_51 : decode cX10_age 51 = .ok (.aload_n 0, 1) := by decide +kernel
theorem dX10_age_52 : decode cX10_age 52 = .ok (.invokevirtual 150, 3) := by decide +kernel
theorem dX10_age_55 : decode cX10_age 55 = .ok (.aload_n 0, 1) := by decide +kernel
theorem dX10_age_56 : decode cX10_age 56 = .ok (.getfield 75, 3) := by decide +kernel
theorem dX10_age_59 : decode cX10_age 59 = .ok (.ifCond .eq 10, 3) := by decide +kernel
theorem dX10_age_62 : decode cX10_age 62 = .ok (.aload_n 0, 1) := by decide +kernel
theorem dX10_age_63 : decode cX10_age 63 = .ok (.bipush 10, 2) := by decide +kernel
theorem dX10_age_65 : decode cX10_age 65 = .ok (.invokevirtual 111, 3) := by decide +kernel
theorem dX10_age_68 : decode cX10_age 68 = .ok (.ireturn, 1) := by decide +kernel
theorem dX10_age_69 : decode cX10_age 69 = .ok (.aload_n 0, 1) := by decide +kernel
theorem dX10_age_70 : decode cX10_age 70 = .ok (.getfield 58, 3) := by decide +kernel
theorem dX10_age_73 : decode cX10_age 73 = .ok (.getfield 162, 3) := by decide +kernel
theorem dX10_age_76 : decode cX10_age 76 = .ok (.astore_n 2, 1) := by decide +kernel
theorem dX10_age_77 : decode cX10_age 77 = .ok (.aload_n 0, 1) := by decide +kernel
theorem dX10_age_78 : decode cX10_age 78 = .ok (.getfield 58, 3) := by decide +kernel
theorem dX10_age_81 : decode cX10_age 81 = .ok (.aload_n 0, 1) := by decide +kernel
theorem dX10_age_82 : decode cX10_age 82 = .ok (.getfield 67, 3) := by decide +kernel
theorem dX10_age_85 : decode cX10_age 85 = .ok (.putfield 162, 3) := by decide +kernel
theorem dX10_age_88 : decode cX10_age 88 = .ok (.aload_n 0, 1) := by decide +kernel
theorem dX10_age_89 : decode cX10_age 89 = .ok (.aload_n 2, 1) := by decide +kernel
theorem dX10_age_90 : decode cX10_age 90 = .ok (.putfield 67, 3) := by decide +kernel
theorem dX10_age_93 : decode cX10_age 93 = .ok (.aload_n 0, 1) := by decide +kernel
theorem dX10_age_94 : decode cX10_age 94 = .ok (.aload_n 0, 1) := by decide +kernel
theorem dX10_age_95 : decode cX10_age 95 = .ok (.getfield 58, 3) := by decide +kernel
theorem dX10_age_98 : decode cX10_age 98 = .ok (.getfield 162, 3) := by decide +kernel
theorem dX10_age_101 : decode cX10_age 101 = .ok (.getfield 165, 3) := by decide +kernel
theorem dX10_age_104 : decode cX10_age 104 = .ok (.invokevirtual 156, 3) := by decide +kernel
theorem dX10_age_107 : decode cX10_age 107 = .ok (.ireturn, 1) := by decide +kernel
theorem dX10_fault_0 : decode cX10_fault 0 = .ok (.iload_n 1, 1) := by decide +kernel
theorem dX10_fault_1 : decode cX10_fault 1 = .ok (.ifCond .ne 8, 3) := by decide +kernel
theorem dX10_fault_4 : decode cX10_fault 4 = .ok (.aload_n 0, 1) := by decide +kernel
theorem dX10_fault_5 : decode cX10_fault 5 = .ok (.getfield 75, 3) := by decide +kernel
theorem dX10_fault_8 : decode cX10_fault 8 = .ok (.ireturn, 1) := by decide +kernel
theorem dX10_fault_9 : decode cX10_fault 9 = .ok (.iload_n 1, 1) := by decide +kernel
theorem dX10_fault_10 : decode cX10_fault 10 = .ok (.iconst 1, 1) := by decide +kernel
theorem dX10_fault_11 : decode cX10_fault 11 = .ok (.if_icmp .ne 10, 3) := by decide +kernel
theorem dX10_fault_14 : decode cX10_fault 14 = .ok (.aload_n 0, 1) := by decide +kernel
theorem dX10_fault_15 : decode cX10_fault 15 = .ok (.getfield 79, 3) := by decide +kernel
theorem dX10_fault_18 : decode cX10_fault 18 = .ok (.goto 4, 3) := by decide +kernel
theorem dX10_fault_21 : decode cX10_fault 21 = .ok (.iconst (-1), 1) := by decide +kernel
theorem dX10_fault_22 : decode cX10_fault 22 = .ok (.ireturn, 1) := by decide +kernel
theorem dX10_many_0 : decode cX10_many 0 = .ok (.iload_n 1, 1) := by decide +kernel
theorem dX10_many_1 : decode cX10_many 1 = .ok (.tableswitch 79 0 3 #[31, 43, 55, 67], 31) := by decide +kernel
theorem dX10_many_32 : decode cX10_many 32 = .ok (.aload_n 0, 1) := by decide +kernel
theorem dX10_many_33 : decode cX10_many 33 = .ok (.aload_n 0, 1) := by decide +kernel
theorem dX10_many_34 : decode cX10_many 34 = .ok (.getfield 58, 3) := by decide +kernel
theorem dX10_many_37 : decode cX10_many 37 = .ok (.getfield 168, 3) := by decide +kernel
theorem dX10_many_40 : decode cX10_many 40 = .ok (.invokevirtual 156, 3) := by decide +kernel
theorem dX10_many_43 : decode cX10_many 43 = .ok (.ireturn, 1) := by decide +kernel
theorem dX10_many_44 : decode cX10_many 44 = .ok (.aload_n 0, 1) := by decide +kernel
theorem dX10_many_45 : decode cX10_many 45 = .ok (.aload_n 0, 1) := by decide +kernel
theorem dX10_many_46 : decode cX10_many 46 = .ok (.getfield 58, 3) := by decide +kernel
theorem dX10_many_49 : decode cX10_many 49 = .ok (.getfield 153, 3) := by decide +kernel
theorem dX10_many_52 : decode cX10_many 52 = .ok (.invokevirtual 156, 3) := by decide +kernel
theorem dX10_many_55 : decode cX10_many 55 = .ok (.ireturn, 1) := by decide +kernel
theorem dX10_many_56 : decode cX10_many 56 = .ok (.aload_n 0, 1) := by decide +kernel
theorem dX10_many_57 : decode cX10_many 57 = .ok (.aload_n 0, 1) := by decide +kernel
theorem dX10_many_58 : decode cX10_many 58 = .ok (.getfield 58, 3) := by decide +kernel
theorem dX10_many_61 : decode cX10_many 61 = .ok (.getfield 171, 3) := by decide +kernel
theorem dX10_many_64 : decode cX10_many 64 = .ok (.invokevirtual 156, 3) := by decide +kernel
theorem dX10_many_67 : decode cX10_many 67 = .ok (.ireturn, 1) := by decide +kernel
theorem dX10_many_68 : decode cX10_many 68 = .ok (.aload_n 0, 1) := by decide +kernel
theorem dX10_many_69 : decode cX10_many 69 = .ok (.aload_n 0, 1) := by decide +kernel
theorem dX10_many_70 : decode cX10_many 70 = .ok (.getfield 58, 3) := by decide +kernel
theorem dX10_many_73 : decode cX10_many 73 = .ok (.getfield 174, 3) := by decide +kernel
theorem dX10_many_76 : decode cX10_many 76 = .ok (.invokevirtual 156, 3) := by decide +kernel
theorem dX10_many_79 : decode cX10_many 79 = .ok (.ireturn, 1) := by decide +kernel
theorem dX10_many_80 : decode cX10_many 80 = .ok (.aload_n 0, 1) := by decide +kernel
theorem dX10_many_81 : decode cX10_many 81 = .ok (.iconst 5, 1) := by decide +kernel
theorem dX10_many_82 : decode cX10_many 82 = .ok (.invokevirtual 111, 3) := by decide +kernel
theorem dX10_many_85 : decode cX10_many 85 = .ok (.ireturn, 1) := by decide +kernel
theorem dX10_lesson_0 : decode cX10_lesson 0 = .ok (.aload_n 0, 1) := by decide +kernel
theorem dX10_lesson_1 : decode cX10_lesson 1 = .ok (.getfield 58, 3) := by decide +kernel
theorem dX10_lesson_4 : decode cX10_lesson 4 = .ok (.iload_n 1, 1) := by decide +kernel
theorem dX10_lesson_5 : decode cX10_lesson 5 = .ok (.i2l, 1) := by decide +kernel
theorem dX10_lesson_6 : decode cX10_lesson 6 = .ok (.invokevirtual 177, 3) := by decide +kernel
theorem dX10_lesson_9 : decode cX10_lesson 9 = .ok (.ifCond .ne 9, 3) := by decide +kernel
theorem dX10_lesson_12 : decode cX10_lesson 12 = .ok (.aload_n 0, 1) := by decide +kernel
theorem dX10_lesson_13 : decode cX10_lesson 13 = .ok (.iconst 2, 1) := by decide +kernel
theorem dX10_lesson_14 : decode cX10_lesson 14 = .ok (.invokevirtual 111, 3) := by decide +kernel
theorem dX10_lesson_17 : decode cX10_lesson 17 = .ok (.ireturn, 1) := by decide +kernel
theorem dX10_lesson_18 : decode cX10_lesson 18 = .ok (.aload_n 0, 1) := by decide +kernel
theorem dX10_lesson_19 : decode cX10_lesson 19 = .ok (.getfield 58, 3) := by decide +kernel
theorem dX10_lesson_22 : decode cX10_lesson 22 = .ok (.getfield 181, 3) := by decide +kernel
theorem dX10_lesson_25 : decode cX10_lesson 25 = .ok (.iload_n 1, 1) := by decide +kernel
theorem dX10_lesson_26 : decode cX10_lesson 26 = .ok (.aaload, 1) := by decide +kernel
theorem dX10_lesson_27 : decode cX10_lesson 27 = .ok (.astore_n 3, 1) := by decide +kernel
theorem dX10_lesson_28 : decode cX10_lesson 28 = .ok (.iload_n 2, 1) := by decide +kernel
theorem dX10_lesson_29 : decode cX10_lesson 29 = .ok (.tableswitch 80 0 4 #[35, 44, 53, 62, 71], 35) := by decide +kernel
theorem dX10_lesson_64 : decode cX10_lesson 64 = .ok (.aload_n 0, 1) := by decide +kernel
theorem dX10_lesson_65 : decode cX10_lesson 65 = .ok (.aload_n 3, 1) := by decide +kernel
theorem dX10_lesson_66 : decode cX10_lesson 66 = .ok (.getfield 185, 3) := by decide +kernel
theorem dX10_lesson_69 : decode cX10_lesson 69 = .ok (.invokevirtual 156, 3) := by decide +kernel
theorem dX10_lesson_72 : decode cX10_lesson 72 = .ok (.ireturn, 1) := by decide +kernel
theorem dX10_lesson_73 : decode cX10_lesson 73 = .ok (.aload_n 0, 1) := by decide +kernel
theorem dX10_lesson_74 : decode cX10_lesson 74 = .ok (.aload_n 3, 1) := by decide +kernel
theorem dX10_lesson_75 : decode cX10_lesson 75 = .ok (.getfield 190, 3) := by decide +kernel
theorem dX10_lesson_78 : decode cX10_lesson 78 = .ok (.invokevirtual 156, 3) := by decide +kernel
theorem dX10_lesson_81 : decode cX10_lesson 81 = .ok (.ireturn, 1) := by decide +kernel
theorem dX10_lesson_82 : decode cX10_lesson 82 = .ok (.aload_n 0, 1) := by decide +kernel
theorem dX10_lesson_83 : decode cX10_lesson 83 = .ok (.aload_n 3, 1) := by decide +kernel
theorem dX10_lesson_84 : decode cX10_lesson 84 = .ok (.getfield 193, 3) := by decide +kernel
theorem dX10_lesson_87 : decode cX10_lesson 87 = .ok (.invokevirtual 156, 3) := by decide +kernel
theorem dX10_lesson_90 : decode cX10_lesson 90 = .ok (.ireturn, 1) := by decide +kernel
theorem dX10_lesson_91 : decode cX10_lesson 91 = .ok (.aload_n 0, 1) := by decide +kernel
theorem dX10_lesson_92 : decode cX10_lesson 92 = .ok (.aload_n 3, 1) := by decide +kernel
theorem dX10_lesson_93 : decode cX10_lesson 93 = .ok (.getfield 196, 3) := by decide +kernel
theorem dX10_lesson_96 : decode cX10_lesson 96 = .ok (.invokevirtual 199, 3) := by decide +kernel
theorem dX10_lesson_99 : decode cX10_lesson 99 = .ok (.ireturn, 1) := by decide +kernel
theorem dX10_lesson_100 : decode cX10_lesson 100 = .ok (.aload_n 0, 1) := by decide +kernel
theorem dX10_lesson_101 : decode cX10_lesson 101 = .ok (.aload_n 3, 1) := by decide +kernel
theorem dX10_lesson_102 : decode cX10_lesson 102 = .ok (.getfield 202, 3) := by decide +kernel
theorem dX10_lesson_105 : decode cX10_lesson 105 = .ok (.invokevirtual 156, 3) := by decide +kernel
theorem dX10_lesson_108 : decode cX10_lesson 108 = .ok (.ireturn, 1) := by decide +kernel
theorem dX10_lesson_109 : decode cX10_lesson 109 = .ok (.aload_n 0, 1) := by decide +kernel
theorem dX10_lesson_110 : decode cX10_lesson 110 = .ok (.iconst 5, 1) := by decide +kernel
theorem dX10_lesson_111 : decode cX10_lesson 111 = .ok (.invokevirtual 111, 3) := by decide +kernel
theorem dX10_lesson_114 : decode cX10_lesson 114 = .ok (.ireturn, 1) := by decide +kernel
theorem dX10_child_0 : decode cX10_child 0 = .ok (.aload_n 0, 1) := by decide +kernel
theorem dX10_child_1 : decode cX10_child 1 = .ok (.getfield 58, 3) := by decide +kernel
theorem dX10_child_4 : decode cX10_child 4 = .ok (.iload_n 1, 1) := by decide +kernel
theorem dX10_child_5 : decode cX10_child 5 = .ok (.invokevirtual 205, 3) := by decide +kernel
theorem dX10_child_8 : decode cX10_child 8 = .ok (.ifCond .ne 9, 3) := by decide +kernel
theorem dX10_child_11 : decode cX10_child 11 = .ok (.aload_n 0, 1) := by decide +kernel
theorem dX10_child_12 : decode cX10_child 12 = .ok (.iconst 2, 1) := by decide +kernel
theorem dX10_child_13 : decode cX10_child 13 = .ok (.invokevirtual 111, 3) := by decide +kernel
theorem dX10_child_16 : decode cX10_child 16 = .ok (.ireturn, 1) := by decide +kernel
theorem dX10_child_17 : decode cX10_child 17 = .ok (.aload_n 0, 1) := by decide +kernel
theorem dX10_child_18 : decode cX10_child 18 = .ok (.getfield 58, 3) := by decide +kernel
theorem dX10_child_21 : decode cX10_child 21 = .ok (.getfield 208, 3) := by decide +kernel
theorem dX10_child_24 : decode cX10_child 24 = .ok (.iload_n 1, 1) := by decide +kernel
theorem dX10_child_25 : decode cX10_child 25 = .ok (.aaload, 1) := by decide +kernel
theorem dX10_child_26 : decode cX10_child 26 = .ok (.astore_n 3, 1) := by decide +kernel
theorem dX10_child_27 : decode cX10_child 27 = .ok (.iload_n 2, 1) := by decide +kernel
theorem dX10_child_28 : decode cX10_child 28 = .ok (.tableswitch 81 0 4 #[36, 45, 54, 63, 72], 36) := by decide +kernel
theorem dX10_child_64 : decode cX10_child 64 = .ok (.aload_n 0, 1) := by decide +kernel
theorem dX10_child_65 : decode cX10_child 65 = .ok (.aload_n 3, 1) := by decide +kernel
theorem dX10_child_66 : decode cX10_child 66 = .ok (.getfield 212, 3) := by decide +kernel
theorem dX10_child_69 : decode cX10_child 69 = .ok (.invokevirtual 156, 3) := by decide +kernel
theorem dX10_child_72 : decode cX10_child 72 = .ok (.ireturn, 1) := by decide +kernel
theorem dX10_child_73 : decode cX10_child 73 = .ok (.aload_n 0, 1) := by decide +kernel
theorem dX10_child_74 : decode cX10_child 74 = .ok (.aload_n 3, 1) := by decide +kernel
theorem dX10_child_75 : decode cX10_child 75 = .ok (.getfield 217, 3) := by decide +kernel
theorem dX10_child_78 : decode cX10_child 78 = .ok (.invokevirtual 156, 3) := by decide +kernel
theorem dX10_child_81 : decode cX10_child 81 = .ok (.ireturn, 1) := by decide +kernel
theorem dX10_child_82 : decode cX10_child 82 = .ok (.aload_n 0, 1) := by decide +kernel
theorem dX10_child_83 : decode cX10_child 83 = .ok (.aload_n 3, 1) := by decide +kernel
theorem dX10_child_84 : decode cX10_child 84 = .ok (.getfield 220, 3) := by decide +kernel
theorem dX10_child_87 : decode cX10_child 87 = .ok (.invokevirtual 156, 3) := by decide +kernel
theorem dX10_child_90 : decode cX10_child 90 = .ok (.ireturn, 1) := by decide +kernel
theorem dX10_child_91 : decode cX10_child 91 = .ok (.aload_n 0, 1) := by decide +kernel
theorem dX10_child_92 : decode cX10_child 92 = .ok (.aload_n 3, 1) := by decide +kernel
theorem dX10_child_93 : decode cX10_child 93 = .ok (.getfield 223, 3) := by decide +kernel
theorem dX10_child_96 : decode cX10_child 96 = .ok (.invokevirtual 156, 3) := by decide +kernel
theorem dX10_child_99 : decode cX10_child 99 = .ok (.ireturn, 1) := by decide +kernel
theorem dX10_child_100 : decode cX10_child 100 = .ok (.aload_n 0, 1) := by decide +kernel
theorem dX10_child_101 : decode cX10_child 101 = .ok (.aload_n 3, 1) := by decide +kernel
theorem dX10_child_102 : decode cX10_child 102 = .ok (.getfield 226, 3) := by decide +kernel
theorem dX10_child_105 : decode cX10_child 105 = .ok (.invokevirtual 156, 3) := by decide +kernel
theorem dX10_child_108 : decode cX10_child 108 = .ok (.ireturn, 1) := by decide +kernel
theorem dX10_child_109 : decode cX10_child 109 = .ok (.aload_n 0, 1) := by decide +kernel
theorem dX10_child_110 : decode cX10_child 110 = .ok (.iconst 5, 1) := by decide +kernel
theorem dX10_child_111 : decode cX10_child 111 = .ok (.invokevirtual 111, 3) := by decide +kernel
theorem dX10_child_114 : decode cX10_child 114 = .ok (.ireturn, 1) := by decide +kernel
theorem dX10_letter_0 : decode cX10_letter 0 = .ok (.aload_n 0, 1) := by decide +kernel
theorem dX10_letter_1 : decode cX10_letter 1 = .ok (.getfield 58, 3) := by decide +kernel
theorem dX10_letter_4 : decode cX10_letter 4 = .ok (.iload_n 1, 1) := by decide +kernel
theorem dX10_letter_5 : decode cX10_letter 5 = .ok (.invokevirtual 205, 3) := by decide +kernel
theorem dX10_letter_8 : decode cX10_letter 8 = .ok (.ifCond .ne 9, 3) := by decide +kernel
theorem dX10_letter_11 : decode cX10_letter 11 = .ok (.aload_n 0, 1) := by decide +kernel
theorem dX10_letter_12 : decode cX10_letter 12 = .ok (.iconst 2, 1) := by decide +kernel
theorem dX10_letter_13 : decode cX10_letter 13 = .ok (.invokevirtual 111, 3) := by decide +kernel
theorem dX10_letter_16 : decode cX10_letter 16 = .ok (.ireturn, 1) := by decide +kernel
theorem dX10_letter_17 : decode cX10_letter 17 = .ok (.iload_n 3, 1) := by decide +kernel
theorem dX10_letter_18 : decode cX10_letter 18 = .ok (.ifCond .lt 8, 3) := by decide +kernel
theorem dX10_letter_21 : decode cX10_letter 21 = .ok (.iload_n 3, 1) := by decide +kernel
theorem dX10_letter_22 : decode cX10_letter 22 = .ok (.iconst 1, 1) := by decide +kernel
theorem dX10_letter_23 : decode cX10_letter 23 = .ok (.if_icmp .le 9, 3) := by decide +kernel
theorem dX10_letter_26 : decode cX10_letter 26 = .ok (.aload_n 0, 1) := by decide +kernel
theorem dX10_letter_27 : decode cX10_letter 27 = .ok (.iconst 5, 1) := by decide +kernel
theorem dX10_letter_28 : decode cX10_letter 28 = .ok (.invokevirtual 111, 3) := by decide +kernel
theorem dX10_letter_31 : decode cX10_letter 31 = .ok (.ireturn, 1) := by decide +kernel
theorem dX10_letter_32 : decode cX10_letter 32 = .ok (.aload_n 0, 1) := by decide +kernel
theorem dX10_letter_33 : decode cX10_letter 33 = .ok (.getfield 58, 3) := by decide +kernel
theorem dX10_letter_36 : decode cX10_letter 36 = .ok (.getfield 208, 3) := by decide +kernel
theorem dX10_letter_39 : decode cX10_letter 39 = .ok (.iload_n 1, 1) := by decide +kernel
theorem dX10_letter_40 : decode cX10_letter 40 = .ok (.aaload, 1) := by decide +kernel
theorem dX10_letter_41 : decode cX10_letter 41 = .ok (.astore 4, 2) := by decide +kernel
theorem dX10_letter_43 : decode cX10_letter 43 = .ok (.aload 4, 2) := by decide +kernel
theorem dX10_letter_45 : decode cX10_letter 45 = .ok (.iload_n 2, 1) := by decide +kernel
theorem dX10_letter_46 : decode cX10_letter 46 = .ok (.invokevirtual 229, 3) := by decide +kernel
theorem dX10_letter_49 : decode cX10_letter 49 = .ok (.ifCond .ne 10, 3) := by decide +kernel
theorem dX10_letter_52 : decode cX10_letter 52 = .ok (.aload_n 0, 1) := by decide +kernel
theorem dX10_letter_53 : decode cX10_letter 53 = .ok (.bipush 8, 2) := by decide +kernel
theorem dX10_letter_55 : decode cX10_letter 55 = .ok (.invokevirtual 111, 3) := by decide +kernel
theorem dX10_letter_58 : decode cX10_letter 58 = .ok (.ireturn, 1) := by decide +kernel
theorem dX10_letter_59 : decode cX10_letter 59 = .ok (.aload_n 0, 1) := by decide +kernel
theorem dX10_letter_60 : decode cX10_letter 60 = .ok (.iload_n 3, 1) := by decide +kernel
theorem dX10_letter_61 : decode cX10_letter 61 = .ok (.ifCond .ne 16, 3) := by decide +kernel
theorem dX10_letter_64 : decode cX10_letter 64 = .ok (.aload_n 0, 1) := by decide +kernel
theorem dX10_letter_65 : decode cX10_letter 65 = .ok (.getfield 58, 3) := by decide +kernel
theorem dX10_letter_68 : decode cX10_letter 68 = .ok (.aload 4, 2) := by decide +kernel
theorem dX10_letter_70 : decode cX10_letter 70 = .ok (.iload_n 2, 1) := by decide +kernel
theorem dX10_letter_71 : decode cX10_letter 71 = .ok (.invokevirtual 232, 3) := by decide +kernel
theorem dX10_letter_74 : decode cX10_letter 74 = .ok (.goto 10, 3) := by decide +kernel
theorem dX10_letter_77 : decode cX10_letter 77 = .ok (.aload 4, 2) := by decide +kernel
theorem dX10_letter_79 : decode cX10_letter 79 = .ok (.getfield 236, 3) := by decide +kernel
theorem dX10_letter_82 : decode cX10_letter 82 = .ok (.iload_n 2, 1) := by decide +kernel
theorem dX10_letter_83 : decode cX10_letter 83 = .ok (.iaload, 1) := by decide +kernel
theorem dX10_letter_84 : decode cX10_letter 84 = .ok (.invokevirtual 156, 3) := by decide +kernel
theorem dX10_letter_87 : decode cX10_letter 87 = .ok (.ireturn, 1) := by decide +kernel
theorem dX10_teaches_0 : decode cX10_teaches 0 = .ok (.aload_n 0, 1) := by decide +kernel
theorem dX10_teaches_1 : decode cX10_teaches 1 = .ok (.getfield 58, 3) := by decide +kernel
theorem dX10_teaches_4 : decode cX10_teaches 4 = .ok (.iload_n 1, 1) := by decide +kernel
theorem dX10_teaches_5 : decode cX10_teaches 5 = .ok (.invokevirtual 240, 3) := by decide +kernel
theorem dX10_teaches_8 : decode cX10_teaches 8 = .ok (.ifCond .ne 9, 3) := by decide +kernel
theorem dX10_teaches_11 : decode cX10_teaches 11 = .ok (.aload_n 0, 1) := by decide +kernel
theorem dX10_teaches_12 : decode cX10_teaches 12 = .ok (.iconst 2, 1) := by decide +kernel
theorem dX10_teaches_13 : decode cX10_teaches 13 = .ok (.invokevirtual 111, 3) := by decide +kernel
theorem dX10_teaches_16 : decode cX10_teaches 16 = .ok (.ireturn, 1) := by decide +kernel
theorem dX10_teaches_17 : decode cX10_teaches 17 = .ok (.iconst 0, 1) := by decide +kernel
theorem dX10_teaches_18 : decode cX10_teaches 18 = .ok (.istore_n 2, 1) := by decide +kernel
theorem dX10_teaches_19 : decode cX10_teaches 19 = .ok (.iconst 0, 1) := by decide +kernel
theorem dX10_teaches_20 : decode cX10_teaches 20 = .ok (.istore_n 3, 1) := by decide +kernel
theorem dX10_teaches_21 : decode cX10_teaches 21 = .ok (.iload_n 3, 1) := by decide +kernel
theorem dX10_teaches_22 : decode cX10_teaches 22 = .ok (.aload_n 0, 1) := by decide +kernel
theorem dX10_teaches_23 : decode cX10_teaches 23 = .ok (.getfield 58, 3) := by decide +kernel
theorem dX10_teaches_26 : decode cX10_teaches 26 = .ok (.getfield 153, 3) := by decide +kernel
theorem dX10_teaches_29 : decode cX10_teaches 29 = .ok (.if_icmp .ge 31, 3) := by decide +kernel
theorem dX10_teaches_32 : decode cX10_teaches 32 = .ok (.aload_n 0, 1) := by decide +kernel
theorem dX10_teaches_33 : decode cX10_teaches 33 = .ok (.getfield 58, 3) := by decide +kernel
theorem dX10_teaches_36 : decode cX10_teaches 36 = .ok (.getfield 181, 3) := by decide +kernel
theorem dX10_teaches_39 : decode cX10_teaches 39 = .ok (.iload_n 3, 1) := by decide +kernel
theorem dX10_teaches_40 : decode cX10_teaches 40 = .ok (.aaload, 1) := by decide +kernel
theorem dX10_teaches_41 : decode cX10_teaches 41 = .ok (.getfield 196, 3) := by decide +kernel
theorem dX10_teaches_44 : decode cX10_teaches 44 = .ok (.iload_n 1, 1) := by decide +kernel
theorem dX10_teaches_45 : decode cX10_teaches 45 = .ok (.if_icmp .ne 9, 3) := by decide +kernel
theorem dX10_teaches_48 : decode cX10_teaches 48 = .ok (.iload_n 2, 1) := by decide +kernel
theorem dX10_teaches_49 : decode cX10_teaches 49 = .ok (.iconst 1, 1) := by decide +kernel
theorem dX10_teaches_50 : decode cX10_teaches 50 = .ok (.iload_n 3, 1) := by decide +kernel
theorem dX10_teaches_51 : decode cX10_teaches 51 = .ok (.ishl, 1) := by decide +kernel
theorem dX10_teaches_52 : decode cX10_teaches 52 = .ok (.ior, 1) := by decide +kernel
theorem dX10_teaches_53 : decode cX10_teaches 53 = .ok (.istore_n 2, 1) := by decide +kernel
theorem dX10_teaches_54 : decode cX10_teaches 54 = .ok (.iinc 3 1, 3) := by decide +kernel
theorem dX10_teaches_57 : decode cX10_teaches 57 = .ok (.goto (-36), 3) := by decide +kernel
theorem dX10_teaches_60 : decode cX10_teaches 60 = .ok (.aload_n 0, 1) := by decide +kernel
theorem dX10_teaches_61 : decode cX10_teaches 61 = .ok (.iload_n 2, 1) := by decide +kernel
theorem dX10_teaches_62 : decode cX10_teaches 62 = .ok (.invokevirtual 156, 3) := by decide +kernel
theorem dX10_teaches_65 : decode cX10_teaches 65 = .ok (.ireturn, 1) := by decide +kernel
theorem dX10_copyName_0 : decode cX10_copyName 0 = .ok (.iload_n 2, 1) := by decide +kernel
theorem dX10_copyName_1 : decode cX10_copyName 1 = .ok (.invokestatic 88, 3) := by decide +kernel
theorem dX10_copyName_4 : decode cX10_copyName 4 = .ok (.ifCond .ne 9, 3) := by decide +kernel
theorem dX10_copyName_7 : decode cX10_copyName 7 = .ok (.aload_n 0, 1) := by decide +kernel
theorem dX10_copyName_8 : decode cX10_copyName 8 = .ok (.iconst 1, 1) := by decide +kernel
theorem dX10_copyName_9 : decode cX10_copyName 9 = .ok (.invokevirtual 111, 3) := by decide +kernel
theorem dX10_copyName_12 : decode cX10_copyName 12 = .ok (.ireturn, 1) := by decide +kernel
theorem dX10_copyName_13 : decode cX10_copyName 13 = .ok (.aload_n 0, 1) := by decide +kernel
theorem dX10_copyName_14 : decode cX10_copyName 14 = .ok (.getfield 11, 3) := by decide +kernel
theorem dX10_copyName_17 : decode cX10_copyName 17 = .ok (.iload_n 2, 1) := by decide +kernel
theorem dX10_copyName_18 : decode cX10_copyName 18 = .ok (.aaload, 1) := by decide +kernel
theorem dX10_copyName_19 : decode cX10_copyName 19 = .ok (.astore_n 3, 1) := by decide +kernel
theorem dX10_copyName_20 : decode cX10_copyName 20 = .ok (.aload_n 3, 1) := by decide +kernel
theorem dX10_copyName_21 : decode cX10_copyName 21 = .ok (.getfield 119, 3) := by decide +kernel
theorem dX10_copyName_24 : decode cX10_copyName 24 = .ok (.ifCond .ne 9, 3) := by decide +kernel
theorem dX10_copyName_27 : decode cX10_copyName 27 = .ok (.aload_n 0, 1) := by decide +kernel
theorem dX10_copyName_28 : decode cX10_copyName 28 = .ok (.iconst 3, 1) := by decide +kernel
theorem dX10_copyName_29 : decode cX10_copyName 29 = .ok (.invokevirtual 111, 3) := by decide +kernel
theorem dX10_copyName_32 : decode cX10_copyName 32 = .ok (.ireturn, 1) := by decide +kernel
theorem dX10_copyName_33 : decode cX10_copyName 33 = .ok (.aload_n 0, 1) := by decide +kernel
theorem dX10_copyName_34 : decode cX10_copyName 34 = .ok (.getfield 58, 3) := by decide +kernel
theorem dX10_copyName_37 : decode cX10_copyName 37 = .ok (.iload_n 1, 1) := by decide +kernel
theorem dX10_copyName_38 : decode cX10_copyName 38 = .ok (.invokevirtual 205, 3) := by decide +kernel
theorem dX10_copyName_41 : decode cX10_copyName 41 = .ok (.ifCond .ne 9, 3) := by decide +kernel
theorem dX10_copyName_44 : decode cX10_copyName 44 = .ok (.aload_n 0, 1) := by decide +kernel
theorem dX10_copyName_45 : decode cX10_copyName 45 = .ok (.iconst 2, 1) := by decide +kernel
theorem dX10_copyName_46 : decode cX10_copyName 46 = .ok (.invokevirtual 111, 3) := by decide +kernel
theorem dX10_copyName_49 : decode cX10_copyName 49 = .ok (.ireturn, 1) := by decide +kernel
theorem dX10_copyName_50 : decode cX10_copyName 50 = .ok (.aload_n 0, 1) := by decide +kernel
theorem dX10_copyName_51 : decode cX10_copyName 51 = .ok (.getfield 58, 3) := by decide +kernel
theorem dX10_copyName_54 : decode cX10_copyName 54 = .ok (.getfield 208, 3) := by decide +kernel
theorem dX10_copyName_57 : decode cX10_copyName 57 = .ok (.iload_n 1, 1) := by decide +kernel
theorem dX10_copyName_58 : decode cX10_copyName 58 = .ok (.aaload, 1) := by decide +kernel
theorem dX10_copyName_59 : decode cX10_copyName 59 = .ok (.astore 4, 2) := by decide +kernel
theorem dX10_copyName_61 : decode cX10_copyName 61 = .ok (.aload 4, 2) := by decide +kernel
theorem dX10_copyName_63 : decode cX10_copyName 63 = .ok (.getfield 223, 3) := by decide +kernel
theorem dX10_copyName_66 : decode cX10_copyName 66 = .ok (.aload_n 3, 1) := by decide +kernel
theorem dX10_copyName_67 : decode cX10_copyName 67 = .ok (.getfield 243, 3) := by decide +kernel
theorem dX10_copyName_70 : decode cX10_copyName 70 = .ok (.if_icmp .le 9, 3) := by decide +kernel
theorem dX10_copyName_73 : decode cX10_copyName 73 = .ok (.aload_n 0, 1) := by decide +kernel
theorem dX10_copyName_74 : decode cX10_copyName 74 = .ok (.iconst 4, 1) := by decide +kernel
theorem dX10_copyName_75 : decode cX10_copyName 75 = .ok (.invokevirtual 111, 3) := by decide +kernel
theorem dX10_copyName_78 : decode cX10_copyName 78 = .ok (.ireturn, 1) := by decide +kernel
theorem dX10_copyName_79 : decode cX10_copyName 79 = .ok (.iconst 0, 1) := by decide +kernel
theorem dX10_copyName_80 : decode cX10_copyName 80 = .ok (.istore 5, 2) := by decide +kernel
theorem dX10_copyName_82 : decode cX10_copyName 82 = .ok (.iload 5, 2) := by decide +kernel
theorem dX10_copyName_84 : decode cX10_copyName 84 = .ok (.aload 4, 2) := by decide +kernel
theorem dX10_copyName_86 : decode cX10_copyName 86 = .ok (.getfield 223, 3) := by decide +kernel
theorem dX10_copyName_89 : decode cX10_copyName 89 = .ok (.if_icmp .ge 27, 3) := by decide +kernel
theorem dX10_copyName_92 : decode cX10_copyName 92 = .ok (.aload_n 3, 1) := by decide +kernel
theorem dX10_copyName_93 : decode cX10_copyName 93 = .ok (.iload 5, 2) := by decide +kernel
theorem dX10_copyName_95 : decode cX10_copyName 95 = .ok (.aload_n 0, 1) := by decide +kernel
theorem dX10_copyName_96 : decode cX10_copyName 96 = .ok (.getfield 58, 3) := by decide +kernel
theorem dX10_copyName_99 : decode cX10_copyName 99 = .ok (.aload 4, 2) := by decide +kernel
theorem dX10_copyName_101 : decode cX10_copyName 101 = .ok (.iload 5, 2) := by decide +kernel
theorem dX10_copyName_103 : decode cX10_copyName 103 = .ok (.invokevirtual 232, 3) := by decide +kernel
theorem dX10_copyName_106 : decode cX10_copyName 106 = .ok (.i2l, 1) := by decide +kernel
theorem dX10_copyName_107 : decode cX10_copyName 107 = .ok (.invokevirtual 107, 3) := by decide +kernel
theorem dX10_copyName_110 : decode cX10_copyName 110 = .ok (.iinc 5 1, 3) := by decide +kernel
theorem dX10_copyName_113 : decode cX10_copyName 113 = .ok (.goto (-31), 3) := by decide +kernel
theorem dX10_copyName_116 : decode cX10_copyName 116 = .ok (.aload_n 0, 1) := by decide +kernel
theorem dX10_copyName_117 : decode cX10_copyName 117 = .ok (.aload 4, 2) := by decide +kernel
theorem dX10_copyName_119 : decode cX10_copyName 119 = .ok (.getfield 223, 3) := by decide +kernel
theorem dX10_copyName_122 : decode cX10_copyName 122 = .ok (.invokevirtual 156, 3) := by decide +kernel
theorem dX10_copyName_125 : decode cX10_copyName 125 = .ok (.ireturn, 1) := by decide +kernel
theorem dX10_learn_0 : decode cX10_learn 0 = .ok (.aload_n 0, 1) := by decide +kernel
theorem dX10_learn_1 : decode cX10_learn 1 = .ok (.getfield 58, 3) := by decide +kernel
theorem dX10_learn_4 : decode cX10_learn 4 = .ok (.iload_n 1, 1) := by decide +kernel
theorem dX10_learn_5 : decode cX10_learn 5 = .ok (.invokevirtual 205, 3) := by decide +kernel
theorem dX10_learn_8 : decode cX10_learn 8 = .ok (.ifCond .eq 15, 3) := by decide +kernel
theorem dX10_learn_11 : decode cX10_learn 11 = .ok (.aload_n 0, 1) := by decide +kernel
theorem dX10_learn_12 : decode cX10_learn 12 = .ok (.getfield 58, 3) := by decide +kernel
theorem dX10_learn_15 : decode cX10_learn 15 = .ok (.iload_n 2, 1) := by decide +kernel
theorem dX10_learn_16 : decode cX10_learn 16 = .ok (.i2l, 1) := by decide +kernel
theorem dX10_learn_17 : decode cX10_learn 17 = .ok (.invokevirtual 177, 3) := by decide +kernel
theorem dX10_learn_20 : decode cX10_learn 20 = .ok (.ifCond .ne 9, 3) := by decide +kernel
theorem dX10_learn_23 : decode cX10_learn 23 = .ok (.aload_n 0, 1) := by decide +kernel
theorem dX10_learn_24 : decode cX10_learn 24 = .ok (.iconst 2, 1) := by decide +kernel
theorem dX10_learn_25 : decode cX10_learn 25 = .ok (.invokevirtual 111, 3) := by decide +kernel
theorem dX10_learn_28 : decode cX10_learn 28 = .ok (.ireturn, 1) := by decide +kernel
theorem dX10_learn_29 : decode cX10_learn 29 = .ok (.aload_n 0, 1) := by decide +kernel
theorem dX10_learn_30 : decode cX10_learn 30 = .ok (.getfield 58, 3) := by decide +kernel
theorem dX10_learn_33 : decode cX10_learn 33 = .ok (.getfield 208, 3) := by decide +kernel
theorem dX10_learn_36 : decode cX10_learn 36 = .ok (.iload_n 1, 1) := by decide +kernel
theorem dX10_learn_37 : decode cX10_learn 37 = .ok (.aaload, 1) := by decide +kernel
theorem dX10_learn_38 : decode cX10_learn 38 = .ok (.astore_n 3, 1) := by decide +kernel
theorem dX10_learn_39 : decode cX10_learn 39 = .ok (.aload_n 0, 1) := by decide +kernel
theorem dX10_learn_40 : decode cX10_learn 40 = .ok (.getfield 58, 3) := by decide +kernel
theorem dX10_learn_43 : decode cX10_learn 43 = .ok (.aload_n 3, 1) := by decide +kernel
theorem dX10_learn_44 : decode cX10_learn 44 = .ok (.getfield 226, 3) := by decide +kernel
theorem dX10_learn_47 : decode cX10_learn 47 = .ok (.iload_n 2, 1) := by decide +kernel
theorem dX10_learn_48 : decode cX10_learn 48 = .ok (.invokevirtual 244, 3) := by decide +kernel
theorem dX10_learn_51 : decode cX10_learn 51 = .ok (.ifCond .ne 10, 3) := by decide +kernel
theorem dX10_learn_54 : decode cX10_learn 54 = .ok (.aload_n 0, 1) := by decide +kernel
theorem dX10_learn_55 : decode cX10_learn 55 = .ok (.bipush 9, 2) := by decide +kernel
theorem dX10_learn_57 : decode cX10_learn 57 = .ok (.invokevirtual 111, 3) := by decide +kernel
theorem dX10_learn_60 : decode cX10_learn 60 = .ok (.ireturn, 1) := by decide +kernel
theorem dX10_learn_61 : decode cX10_learn 61 = .ok (.aload_n 0, 1) := by decide +kernel
theorem dX10_learn_62 : decode cX10_learn 62 = .ok (.getfield 58, 3) := by decide +kernel
theorem dX10_learn_65 : decode cX10_learn 65 = .ok (.aload_n 3, 1) := by decide +kernel
theorem dX10_learn_66 : decode cX10_learn 66 = .ok (.iload_n 2, 1) := by decide +kernel
theorem dX10_learn_67 : decode cX10_learn 67 = .ok (.invokevirtual 247, 3) := by decide +kernel
theorem dX10_learn_70 : decode cX10_learn 70 = .ok (.ifCond .ne 10, 3) := by decide +kernel
theorem dX10_learn_73 : decode cX10_learn 73 = .ok (.aload_n 0, 1) := by decide +kernel
theorem dX10_learn_74 : decode cX10_learn 74 = .ok (.bipush 7, 2) := by decide +kernel
theorem dX10_learn_76 : decode cX10_learn 76 = .ok (.invokevirtual 111, 3) := by decide +kernel
theorem dX10_learn_79 : decode cX10_learn 79 = .ok (.ireturn, 1) := by decide +kernel
theorem dX10_learn_80 : decode cX10_learn 80 = .ok (.aload_n 0, 1) := by decide +kernel
theorem dX10_learn_81 : decode cX10_learn 81 = .ok (.getfield 58, 3) := by decide +kernel
theorem dX10_learn_84 : decode cX10_learn 84 = .ok (.aload_n 3, 1) := by decide +kernel
theorem dX10_learn_85 : decode cX10_learn 85 = .ok (.iload_n 2, 1) := by decide +kernel
theorem dX10_learn_86 : decode cX10_learn 86 = .ok (.invokevirtual 251, 3) := by decide +kernel
theorem dX10_learn_89 : decode cX10_learn 89 = .ok (.aload_n 0, 1) := by decide +kernel
theorem dX10_learn_90 : decode cX10_learn 90 = .ok (.aload_n 3, 1) := by decide +kernel
theorem dX10_learn_91 : decode cX10_learn 91 = .ok (.getfield 223, 3) := by decide +kernel
theorem dX10_learn_94 : decode cX10_learn 94 = .ok (.invokevirtual 156, 3) := by decide +kernel
theorem dX10_learn_97 : decode cX10_learn 97 = .ok (.ireturn, 1) := by decide +kernel
theorem dX10_lose_0 : decode cX10_lose 0 = .ok (.aload_n 0, 1) := by decide +kernel
theorem dX10_lose_1 : decode cX10_lose 1 = .ok (.getfield 58, 3) := by decide +kernel
theorem dX10_lose_4 : decode cX10_lose 4 = .ok (.iload_n 1, 1) := by decide +kernel
theorem dX10_lose_5 : decode cX10_lose 5 = .ok (.invokevirtual 205, 3) := by decide +kernel
theorem dX10_lose_8 : decode cX10_lose 8 = .ok (.ifCond .ne 9, 3) := by decide +kernel
theorem dX10_lose_11 : decode cX10_lose 11 = .ok (.aload_n 0, 1) := by decide +kernel
theorem dX10_lose_12 : decode cX10_lose 12 = .ok (.iconst 2, 1) := by decide +kernel
theorem dX10_lose_13 : decode cX10_lose 13 = .ok (.invokevirtual 111, 3) := by decide +kernel
theorem dX10_lose_16 : decode cX10_lose 16 = .ok (.ireturn, 1) := by decide +kernel
theorem dX10_lose_17 : decode cX10_lose 17 = .ok (.aload_n 0, 1) := by decide +kernel
theorem dX10_lose_18 : decode cX10_lose 18 = .ok (.getfield 58, 3) := by decide +kernel
theorem dX10_lose_21 : decode cX10_lose 21 = .ok (.getfield 208, 3) := by decide +kernel
theorem dX10_lose_24 : decode cX10_lose 24 = .ok (.iload_n 1, 1) := by decide +kernel
theorem dX10_lose_25 : decode cX10_lose 25 = .ok (.aaload, 1) := by decide +kernel
theorem dX10_lose_26 : decode cX10_lose 26 = .ok (.astore_n 3, 1) := by decide +kernel
theorem dX10_lose_27 : decode cX10_lose 27 = .ok (.aload_n 3, 1) := by decide +kernel
theorem dX10_lose_28 : decode cX10_lose 28 = .ok (.iload_n 2, 1) := by decide +kernel
theorem dX10_lose_29 : decode cX10_lose 29 = .ok (.invokevirtual 229, 3) := by decide +kernel
theorem dX10_lose_32 : decode cX10_lose 32 = .ok (.ifCond .ne 10, 3) := by decide +kernel
theorem dX10_lose_35 : decode cX10_lose 35 = .ok (.aload_n 0, 1) := by decide +kernel
theorem dX10_lose_36 : decode cX10_lose 36 = .ok (.bipush 8, 2) := by decide +kernel
theorem dX10_lose_38 : decode cX10_lose 38 = .ok (.invokevirtual 111, 3) := by decide +kernel
theorem dX10_lose_41 : decode cX10_lose 41 = .ok (.ireturn, 1) := by decide +kernel
theorem dX10_lose_42 : decode cX10_lose 42 = .ok (.aload_n 0, 1) := by decide +kernel
theorem dX10_lose_43 : decode cX10_lose 43 = .ok (.aload_n 3, 1) := by decide +kernel
theorem dX10_lose_44 : decode cX10_lose 44 = .ok (.iload_n 2, 1) := by decide +kernel
theorem dX10_lose_45 : decode cX10_lose 45 = .ok (.invokevirtual 255, 3) := by decide +kernel
theorem dX10_lose_48 : decode cX10_lose 48 = .ok (.invokevirtual 156, 3) := by decide +kernel
theorem dX10_lose_51 : decode cX10_lose 51 = .ok (.ireturn, 1) := by decide +kernel
theorem dX10_rest_0 : decode cX10_rest 0 = .ok (.aload_n 0, 1) := by decide +kernel
theorem dX10_rest_1 : decode cX10_rest 1 = .ok (.getfield 58, 3) := by decide +kernel
theorem dX10_rest_4 : decode cX10_rest 4 = .ok (.iload_n 1, 1) := by decide +kernel
theorem dX10_rest_5 : decode cX10_rest 5 = .ok (.invokevirtual 205, 3) := by decide +kernel
theorem dX10_rest_8 : decode cX10_rest 8 = .ok (.ifCond .ne 9, 3) := by decide +kernel
theorem dX10_rest_11 : decode cX10_rest 11 = .ok (.aload_n 0, 1) := by decide +kernel
theorem dX10_rest_12 : decode cX10_rest 12 = .ok (.iconst 2, 1) := by decide +kernel
theorem dX10_rest_13 : decode cX10_rest 13 = .ok (.invokevirtual 111, 3) := by decide +kernel
theorem dX10_rest_16 : decode cX10_rest 16 = .ok (.ireturn, 1) := by decide +kernel
theorem dX10_rest_17 : decode cX10_rest 17 = .ok (.iload_n 2, 1) := by decide +kernel
theorem dX10_rest_18 : decode cX10_rest 18 = .ok (.iconst 1, 1) := by decide +kernel
theorem dX10_rest_19 : decode cX10_rest 19 = .ok (.if_icmp .lt 9, 3) := by decide +kernel
theorem dX10_rest_22 : decode cX10_rest 22 = .ok (.iload_n 2, 1) := by decide +kernel
theorem dX10_rest_23 : decode cX10_rest 23 = .ok (.bipush 99, 2) := by decide +kernel
theorem dX10_rest_25 : decode cX10_rest 25 = .ok (.if_icmp .le 9, 3) := by decide +kernel
theorem dX10_rest_28 : decode cX10_rest 28 = .ok (.aload_n 0, 1) := by decide +kernel
theorem dX10_rest_29 : decode cX10_rest 29 = .ok (.iconst 5, 1) := by decide +kernel
theorem dX10_rest_30 : decode cX10_rest 30 = .ok (.invokevirtual 111, 3) := by decide +kernel
theorem dX10_rest_33 : decode cX10_rest 33 = .ok (.ireturn, 1) := by decide +kernel
theorem dX10_rest_34 : decode cX10_rest 34 = .ok (.aload_n 0, 1) := by decide +kernel
theorem dX10_rest_35 : decode cX10_rest 35 = .ok (.getfield 58, 3) := by decide +kernel
theorem dX10_rest_38 : decode cX10_rest 38 = .ok (.getfield 208, 3) := by decide +kernel
theorem dX10_rest_41 : decode cX10_rest 41 = .ok (.iload_n 1, 1) := by decide +kernel
theorem dX10_rest_42 : decode cX10_rest 42 = .ok (.aaload, 1) := by decide +kernel
theorem dX10_rest_43 : decode cX10_rest 43 = .ok (.astore_n 3, 1) := by decide +kernel
theorem dX10_rest_44 : decode cX10_rest 44 = .ok (.aload_n 3, 1) := by decide +kernel
theorem dX10_rest_45 : decode cX10_rest 45 = .ok (.dup, 1) := by decide +kernel
theorem dX10_rest_46 : decode cX10_rest 46 = .ok (.getfield 220, 3) := by decide +kernel
theorem dX10_rest_49 : decode cX10_rest 49 = .ok (.iload_n 2, 1) := by decide +kernel
theorem dX10_rest_50 : decode cX10_rest 50 = .ok (.iadd, 1) := by decide +kernel
theorem dX10_rest_51 : decode cX10_rest 51 = .ok (.putfield 220, 3) := by decide +kernel
theorem dX10_rest_54 : decode cX10_rest 54 = .ok (.aload_n 0, 1) := by decide +kernel
theorem dX10_rest_55 : decode cX10_rest 55 = .ok (.aload_n 3, 1) := by decide +kernel
theorem dX10_rest_56 : decode cX10_rest 56 = .ok (.getfield 220, 3) := by decide +kernel
theorem dX10_rest_59 : decode cX10_rest 59 = .ok (.invokevirtual 156, 3) := by decide +kernel
theorem dX10_rest_62 : decode cX10_rest 62 = .ok (.ireturn, 1) := by decide +kernel
theorem dX10_pay_0 : decode cX10_pay 0 = .ok (.aload_n 0, 1) := by decide +kernel
theorem dX10_pay_1 : decode cX10_pay 1 = .ok (.getfield 58, 3) := by decide +kernel
theorem dX10_pay_4 : decode cX10_pay 4 = .ok (.iload_n 1, 1) := by decide +kernel
theorem dX10_pay_5 : decode cX10_pay 5 = .ok (.invokevirtual 205, 3) := by decide +kernel
theorem dX10_pay_8 : decode cX10_pay 8 = .ok (.ifCond .ne 9, 3) := by decide +kernel
theorem dX10_pay_11 : decode cX10_pay 11 = .ok (.aload_n 0, 1) := by decide +kernel
theorem dX10_pay_12 : decode cX10_pay 12 = .ok (.iconst 2, 1) := by decide +kernel
theorem dX10_pay_13 : decode cX10_pay 13 = .ok (.invokevirtual 111, 3) := by decide +kernel
theorem dX10_pay_16 : decode cX10_pay 16 = .ok (.ireturn, 1) := by decide +kernel
theorem dX10_pay_17 : decode cX10_pay 17 = .ok (.iload_n 2, 1) := by decide +kernel
theorem dX10_pay_18 : decode cX10_pay 18 = .ok (.iconst 1, 1) := by decide +kernel
theorem dX10_pay_19 : decode cX10_pay 19 = .ok (.if_icmp .lt 9, 3) := by decide +kernel
theorem dX10_pay_22 : decode cX10_pay 22 = .ok (.iload_n 2, 1) := by decide +kernel
theorem dX10_pay_23 : decode cX10_pay 23 = .ok (.bipush 99, 2) := by decide +kernel
theorem dX10_pay_25 : decode cX10_pay 25 = .ok (.if_icmp .le 9, 3) := by decide +kernel
theorem dX10_pay_28 : decode cX10_pay 28 = .ok (.aload_n 0, 1) := by decide +kernel
theorem dX10_pay_29 : decode cX10_pay 29 = .ok (.iconst 5, 1) := by decide +kernel
theorem dX10_pay_30 : decode cX10_pay 30 = .ok (.invokevirtual 111, 3) := by decide +kernel
theorem dX10_pay_33 : decode cX10_pay 33 = .ok (.ireturn, 1) := by decide +kernel
theorem dX10_pay_34 : decode cX10_pay 34 = .ok (.aload_n 0, 1) := by decide +kernel
theorem dX10_pay_35 : decode cX10_pay 35 = .ok (.getfield 58, 3) := by decide +kernel
theorem dX10_pay_38 : decode cX10_pay 38 = .ok (.getfield 208, 3) := by decide +kernel
theorem dX10_pay_41 : decode cX10_pay 41 = .ok (.iload_n 1, 1) := by decide +kernel
theorem dX10_pay_42 : decode cX10_pay 42 = .ok (.aaload, 1) := by decide +kernel
theorem dX10_pay_43 : decode cX10_pay 43 = .ok (.astore_n 3, 1) := by decide +kernel
theorem dX10_pay_44 : decode cX10_pay 44 = .ok (.aload_n 3, 1) := by decide +kernel
theorem dX10_pay_45 : decode cX10_pay 45 = .ok (.iload_n 2, 1) := by decide +kernel
theorem dX10_pay_46 : decode cX10_pay 46 = .ok (.invokevirtual 258, 3) := by decide +kernel
theorem dX10_pay_49 : decode cX10_pay 49 = .ok (.ifCond .eq 14, 3) := by decide +kernel
theorem dX10_pay_52 : decode cX10_pay 52 = .ok (.aload_n 0, 1) := by decide +kernel
theorem dX10_pay_53 : decode cX10_pay 53 = .ok (.aload_n 3, 1) := by decide +kernel
theorem dX10_pay_54 : decode cX10_pay 54 = .ok (.getfield 217, 3) := by decide +kernel
theorem dX10_pay_57 : decode cX10_pay 57 = .ok (.invokevirtual 156, 3) := by decide +kernel
theorem dX10_pay_60 : decode cX10_pay 60 = .ok (.goto 9, 3) := by decide +kernel
theorem dX10_pay_63 : decode cX10_pay 63 = .ok (.aload_n 0, 1) := by decide +kernel
theorem dX10_pay_64 : decode cX10_pay 64 = .ok (.bipush 7, 2) := by decide +kernel
theorem dX10_pay_66 : decode cX10_pay 66 = .ok (.invokevirtual 111, 3) := by decide +kernel
theorem dX10_pay_69 : decode cX10_pay 69 = .ok (.ireturn, 1) := by decide +kernel
theorem dX10_ready_0 : decode cX10_ready 0 = .ok (.aload_n 0, 1) := by decide +kernel
theorem dX10_ready_1 : decode cX10_ready 1 = .ok (.getfield 58, 3) := by decide +kernel
theorem dX10_ready_4 : decode cX10_ready 4 = .ok (.iload_n 1, 1) := by decide +kernel
theorem dX10_ready_5 : decode cX10_ready 5 = .ok (.invokevirtual 205, 3) := by decide +kernel
theorem dX10_ready_8 : decode cX10_ready 8 = .ok (.ifCond .ne 9, 3) := by decide +kernel
theorem dX10_ready_11 : decode cX10_ready 11 = .ok (.aload_n 0, 1) := by decide +kernel
theorem dX10_ready_12 : decode cX10_ready 12 = .ok (.iconst 2, 1) := by decide +kernel
theorem dX10_ready_13 : decode cX10_ready 13 = .ok (.invokevirtual 111, 3) := by decide +kernel
theorem dX10_ready_16 : decode cX10_ready 16 = .ok (.ireturn, 1) := by decide +kernel
theorem dX10_ready_17 : decode cX10_ready 17 = .ok (.iload_n 2, 1) := by decide +kernel
theorem dX10_ready_18 : decode cX10_ready 18 = .ok (.ifCond .lt 8, 3) := by decide +kernel
theorem dX10_ready_21 : decode cX10_ready 21 = .ok (.iload_n 2, 1) := by decide +kernel
theorem dX10_ready_22 : decode cX10_ready 22 = .ok (.iconst 1, 1) := by decide +kernel
theorem dX10_ready_23 : decode cX10_ready 23 = .ok (.if_icmp .le 9, 3) := by decide +kernel
theorem dX10_ready_26 : decode cX10_ready 26 = .ok (.aload_n 0, 1) := by decide +kernel
theorem dX10_ready_27 : decode cX10_ready 27 = .ok (.iconst 5, 1) := by decide +kernel
theorem dX10_ready_28 : decode cX10_ready 28 = .ok (.invokevirtual 111, 3) := by decide +kernel
theorem dX10_ready_31 : decode cX10_ready 31 = .ok (.ireturn, 1) := by decide +kernel
theorem dX10_ready_32 : decode cX10_ready 32 = .ok (.aload_n 0, 1) := by decide +kernel
theorem dX10_ready_33 : decode cX10_ready 33 = .ok (.aload_n 0, 1) := by decide +kernel
theorem dX10_ready_34 : decode cX10_ready 34 = .ok (.getfield 58, 3) := by decide +kernel
theorem dX10_ready_37 : decode cX10_ready 37 = .ok (.aload_n 0, 1) := by decide +kernel
theorem dX10_ready_38 : decode cX10_ready 38 = .ok (.getfield 58, 3) := by decide +kernel
theorem dX10_ready_41 : decode cX10_ready 41 = .ok (.getfield 208, 3) := by decide +kernel
theorem dX10_ready_44 : decode cX10_ready 44 = .ok (.iload_n 1, 1) := by decide +kernel
theorem dX10_ready_45 : decode cX10_ready 45 = .ok (.aaload, 1) := by decide +kernel
theorem dX10_ready_46 : decode cX10_ready 46 = .ok (.iload_n 2, 1) := by decide +kernel
theorem dX10_ready_47 : decode cX10_ready 47 = .ok (.iconst 1, 1) := by decide +kernel
theorem dX10_ready_48 : decode cX10_ready 48 = .ok (.if_icmp .ne 7, 3) := by decide +kernel
theorem dX10_ready_51 : decode cX10_ready 51 = .ok (.iconst 1, 1) := by decide +kernel
theorem dX10_ready_52 : decode cX10_ready 52 = .ok (.goto 4, 3) := by decide +kernel
theorem dX10_ready_55 : decode cX10_ready 55 = .ok (.iconst 0, 1) := by decide +kernel
theorem dX10_ready_56 : decode cX10_ready 56 = .ok (.invokevirtual 261, 3) := by decide +kernel
theorem dX10_ready_59 : decode cX10_ready 59 = .ok (.invokevirtual 156, 3) := by decide +kernel
theorem dX10_ready_62 : decode cX10_ready 62 = .ok (.ireturn, 1) := by decide +kernel
theorem dX10_takes_0 : decode cX10_takes 0 = .ok (.aload_n 0, 1) := by decide +kernel
theorem dX10_takes_1 : decode cX10_takes 1 = .ok (.getfield 58, 3) := by decide +kernel
theorem dX10_takes_4 : decode cX10_takes 4 = .ok (.iload_n 1, 1) := by decide +kernel
theorem dX10_takes_5 : decode cX10_takes 5 = .ok (.invokevirtual 205, 3) := by decide +kernel
theorem dX10_takes_8 : decode cX10_takes 8 = .ok (.ifCond .eq 15, 3) := by decide +kernel
theorem dX10_takes_11 : decode cX10_takes 11 = .ok (.aload_n 0, 1) := by decide +kernel
theorem dX10_takes_12 : decode cX10_takes 12 = .ok (.getfield 58, 3) := by decide +kernel
theorem dX10_takes_15 : decode cX10_takes 15 = .ok (.iload_n 2, 1) := by decide +kernel
theorem dX10_takes_16 : decode cX10_takes 16 = .ok (.i2l, 1) := by decide +kernel
theorem dX10_takes_17 : decode cX10_takes 17 = .ok (.invokevirtual 177, 3) := by decide +kernel
theorem dX10_takes_20 : decode cX10_takes 20 = .ok (.ifCond .ne 9, 3) := by decide +kernel
theorem dX10_takes_23 : decode cX10_takes 23 = .ok (.aload_n 0, 1) := by decide +kernel
theorem dX10_takes_24 : decode cX10_takes 24 = .ok (.iconst 2, 1) := by decide +kernel
theorem dX10_takes_25 : decode cX10_takes 25 = .ok (.invokevirtual 111, 3) := by decide +kernel
theorem dX10_takes_28 : decode cX10_takes 28 = .ok (.ireturn, 1) := by decide +kernel
theorem dX10_takes_29 : decode cX10_takes 29 = .ok (.aload_n 0, 1) := by decide +kernel
theorem dX10_takes_30 : decode cX10_takes 30 = .ok (.aload_n 0, 1) := by decide +kernel
theorem dX10_takes_31 : decode cX10_takes 31 = .ok (.getfield 58, 3) := by decide +kernel
theorem dX10_takes_34 : decode cX10_takes 34 = .ok (.aload_n 0, 1) := by decide +kernel
theorem dX10_takes_35 : decode cX10_takes 35 = .ok (.getfield 58, 3) := by decide +kernel
theorem dX10_takes_38 : decode cX10_takes 38 = .ok (.getfield 208, 3) := by decide +kernel
theorem dX10_takes_41 : decode cX10_takes 41 = .ok (.iload_n 1, 1) := by decide +kernel
theorem dX10_takes_42 : decode cX10_takes 42 = .ok (.aaload, 1) := by decide +kernel
theorem dX10_takes_43 : decode cX10_takes 43 = .ok (.iload_n 2, 1) := by decide +kernel
theorem dX10_takes_44 : decode cX10_takes 44 = .ok (.invokevirtual 265, 3) := by decide +kernel
theorem dX10_takes_47 : decode cX10_takes 47 = .ok (.invokevirtual 156, 3) := by decide +kernel
theorem dX10_takes_50 : decode cX10_takes 50 = .ok (.ireturn, 1) := by decide +kernel
theorem dX10_opens_0 : decode cX10_opens 0 = .ok (.aload_n 0, 1) := by decide +kernel
theorem dX10_opens_1 : decode cX10_opens 1 = .ok (.getfield 58, 3) := by decide +kernel
theorem dX10_opens_4 : decode cX10_opens 4 = .ok (.iload_n 1, 1) := by decide +kernel
theorem dX10_opens_5 : decode cX10_opens 5 = .ok (.invokevirtual 205, 3) := by decide +kernel
theorem dX10_opens_8 : decode cX10_opens 8 = .ok (.ifCond .eq 15, 3) := by decide +kernel
theorem dX10_opens_11 : decode cX10_opens 11 = .ok (.aload_n 0, 1) := by decide +kernel
theorem dX10_opens_12 : decode cX10_opens 12 = .ok (.getfield 58, 3) := by decide +kernel
theorem dX10_opens_15 : decode cX10_opens 15 = .ok (.iload_n 2, 1) := by decide +kernel
theorem dX10_opens_16 : decode cX10_opens 16 = .ok (.i2l, 1) := by decide +kernel
theorem dX10_opens_17 : decode cX10_opens 17 = .ok (.invokevirtual 177, 3) := by decide +kernel
theorem dX10_opens_20 : decode cX10_opens 20 = .ok (.ifCond .ne 9, 3) := by decide +kernel
theorem dX10_opens_23 : decode cX10_opens 23 = .ok (.aload_n 0, 1) := by decide +kernel
theorem dX10_opens_24 : decode cX10_opens 24 = .ok (.iconst 2, 1) := by decide +kernel
theorem dX10_opens_25 : decode cX10_opens 25 = .ok (.invokevirtual 111, 3) := by decide +kernel
theorem dX10_opens_28 : decode cX10_opens 28 = .ok (.ireturn, 1) := by decide +kernel
theorem dX10_opens_29 : decode cX10_opens 29 = .ok (.aload_n 0, 1) := by decide +kernel
theorem dX10_opens_30 : decode cX10_opens 30 = .ok (.getfield 58, 3) := by decide +kernel
theorem dX10_opens_33 : decode cX10_opens 33 = .ok (.getfield 208, 3) := by decide +kernel
theorem dX10_opens_36 : decode cX10_opens 36 = .ok (.iload_n 1, 1) := by decide +kernel
theorem dX10_opens_37 : decode cX10_opens 37 = .ok (.aaload, 1) := by decide +kernel
theorem dX10_opens_38 : decode cX10_opens 38 = .ok (.getfield 226, 3) := by decide +kernel
theorem dX10_opens_41 : decode cX10_opens 41 = .ok (.istore_n 3, 1) := by decide +kernel
theorem dX10_opens_42 : decode cX10_opens 42 = .ok (.iload_n 3, 1) := by decide +kernel
theorem dX10_opens_43 : decode cX10_opens 43 = .ok (.iconst 1, 1) := by decide +kernel
theorem dX10_opens_44 : decode cX10_opens 44 = .ok (.iload_n 2, 1) := by decide +kernel
theorem dX10_opens_45 : decode cX10_opens 45 = .ok (.ishl, 1) := by decide +kernel
theorem dX10_opens_46 : decode cX10_opens 46 = .ok (.ior, 1) := by decide +kernel
theorem dX10_opens_47 : decode cX10_opens 47 = .ok (.istore 4, 2) := by decide +kernel
theorem dX10_opens_49 : decode cX10_opens 49 = .ok (.iload 4, 2) := by decide +kernel
theorem dX10_opens_51 : decode cX10_opens 51 = .ok (.iload_n 3, 1) := by decide +kernel
theorem dX10_opens_52 : decode cX10_opens 52 = .ok (.if_icmp .ne 10, 3) := by decide +kernel
theorem dX10_opens_55 : decode cX10_opens 55 = .ok (.aload_n 0, 1) := by decide +kernel
theorem dX10_opens_56 : decode cX10_opens 56 = .ok (.bipush 9, 2) := by decide +kernel
theorem dX10_opens_58 : decode cX10_opens 58 = .ok (.invokevirtual 111, 3) := by decide +kernel
theorem dX10_opens_61 : decode cX10_opens 61 = .ok (.ireturn, 1) := by decide +kernel
theorem dX10_opens_62 : decode cX10_opens 62 = .ok (.iconst 0, 1) := by decide +kernel
theorem dX10_opens_63 : decode cX10_opens 63 = .ok (.istore 5, 2) := by decide +kernel
theorem dX10_opens_65 : decode cX10_opens 65 = .ok (.iconst 0, 1) := by decide +kernel
theorem dX10_opens_66 : decode cX10_opens 66 = .ok (.istore 6, 2) := by decide +kernel
theorem dX10_opens_68 : decode cX10_opens 68 = .ok (.iload 6, 2) := by decide +kernel
theorem dX10_opens_70 : decode cX10_opens 70 = .ok (.aload_n 0, 1) := by decide +kernel
theorem dX10_opens_71 : decode cX10_opens 71 = .ok (.getfield 58, 3) := by decide +kernel
theorem dX10_opens_74 : decode cX10_opens 74 = .ok (.getfield 153, 3) := by decide +kernel
theorem dX10_opens_77 : decode cX10_opens 77 = .ok (.if_icmp .ge 39, 3) := by decide +kernel
theorem dX10_opens_80 : decode cX10_opens 80 = .ok (.aload_n 0, 1) := by decide +kernel
theorem dX10_opens_81 : decode cX10_opens 81 = .ok (.getfield 58, 3) := by decide +kernel
theorem dX10_opens_84 : decode cX10_opens 84 = .ok (.iload 4, 2) := by decide +kernel
theorem dX10_opens_86 : decode cX10_opens 86 = .ok (.iload 6, 2) := by decide +kernel
theorem dX10_opens_88 : decode cX10_opens 88 = .ok (.invokevirtual 244, 3) := by decide +kernel
theorem dX10_opens_91 : decode cX10_opens 91 = .ok (.ifCond .eq 19, 3) := by decide +kernel
theorem dX10_opens_94 : decode cX10_opens 94 = .ok (.aload_n 0, 1) := by decide +kernel
theorem dX10_opens_95 : decode cX10_opens 95 = .ok (.getfield 58, 3) := by decide +kernel
theorem dX10_opens_98 : decode cX10_opens 98 = .ok (.iload_n 3, 1) := by decide +kernel
theorem dX10_opens_99 : decode cX10_opens 99 = .ok (.iload 6, 2) := by decide +kernel
theorem dX10_opens_101 : decode cX10_opens 101 = .ok (.invokevirtual 244, 3) := by decide +kernel
theorem dX10_opens_104 : decode cX10_opens 104 = .ok (.ifCond .ne 6, 3) := by decide +kernel
theorem dX10_opens_107 : decode cX10_opens 107 = .ok (.iinc 5 1, 3) := by decide +kernel
theorem dX10_opens_110 : decode cX10_opens 110 = .ok (.iinc 6 1, 3) := by decide +kernel
theorem dX10_opens_113 : decode cX10_opens 113 = .ok (.goto (-45), 3) := by decide +kernel
theorem dX10_opens_116 : decode cX10_opens 116 = .ok (.aload_n 0, 1) := by decide +kernel
theorem dX10_opens_117 : decode cX10_opens 117 = .ok (.iload 5, 2) := by decide +kernel
theorem dX10_opens_119 : decode cX10_opens 119 = .ok (.invokevirtual 156, 3) := by decide +kernel
theorem dX10_opens_122 : decode cX10_opens 122 = .ok (.ireturn, 1) := by decide +kernel
theorem dX10_choice_0 : decode cX10_choice 0 = .ok (.aload_n 0, 1) := by decide +kernel
theorem dX10_choice_1 : decode cX10_choice 1 = .ok (.getfield 58, 3) := by decide +kernel
theorem dX10_choice_4 : decode cX10_choice 4 = .ok (.iload_n 1, 1) := by decide +kernel
theorem dX10_choice_5 : decode cX10_choice 5 = .ok (.invokevirtual 205, 3) := by decide +kernel
theorem dX10_choice_8 : decode cX10_choice 8 = .ok (.ifCond .ne 9, 3) := by decide +kernel
theorem dX10_choice_11 : decode cX10_choice 11 = .ok (.aload_n 0, 1) := by decide +kernel
theorem dX10_choice_12 : decode cX10_choice 12 = .ok (.iconst 2, 1) := by decide +kernel
theorem dX10_choice_13 : decode cX10_choice 13 = .ok (.invokevirtual 111, 3) := by decide +kernel
theorem dX10_choice_16 : decode cX10_choice 16 = .ok (.ireturn, 1) := by decide +kernel
theorem dX10_choice_17 : decode cX10_choice 17 = .ok (.aload_n 0, 1) := by decide +kernel
theorem dX10_choice_18 : decode cX10_choice 18 = .ok (.aload_n 0, 1) := by decide +kernel
theorem dX10_choice_19 : decode cX10_choice 19 = .ok (.getfield 58, 3) := by decide +kernel
theorem dX10_choice_22 : decode cX10_choice 22 = .ok (.aload_n 0, 1) := by decide +kernel
theorem dX10_choice_23 : decode cX10_choice 23 = .ok (.getfield 58, 3) := by decide +kernel
theorem dX10_choice_26 : decode cX10_choice 26 = .ok (.getfield 208, 3) := by decide +kernel
theorem dX10_choice_29 : decode cX10_choice 29 = .ok (.iload_n 1, 1) := by decide +kernel
theorem dX10_choice_30 : decode cX10_choice 30 = .ok (.aaload, 1) := by decide +kernel
theorem dX10_choice_31 : decode cX10_choice 31 = .ok (.invokevirtual 268, 3) := by decide +kernel
theorem dX10_choice_34 : decode cX10_choice 34 = .ok (.invokevirtual 199, 3) := by decide +kernel
theorem dX10_choice_37 : decode cX10_choice 37 = .ok (.ireturn, 1) := by decide +kernel
theorem dX10_said_0 : decode cX10_said 0 = .ok (.aload_n 0, 1) := by decide +kernel
theorem dX10_said_1 : decode cX10_said 1 = .ok (.getfield 58, 3) := by decide +kernel
theorem dX10_said_4 : decode cX10_said 4 = .ok (.iload_n 1, 1) := by decide +kernel
theorem dX10_said_5 : decode cX10_said 5 = .ok (.invokevirtual 205, 3) := by decide +kernel
theorem dX10_said_8 : decode cX10_said 8 = .ok (.ifCond .ne 9, 3) := by decide +kernel
theorem dX10_said_11 : decode cX10_said 11 = .ok (.aload_n 0, 1) := by decide +kernel
theorem dX10_said_12 : decode cX10_said 12 = .ok (.iconst 2, 1) := by decide +kernel
theorem dX10_said_13 : decode cX10_said 13 = .ok (.invokevirtual 111, 3) := by decide +kernel
theorem dX10_said_16 : decode cX10_said 16 = .ok (.ireturn, 1) := by decide +kernel
theorem dX10_said_17 : decode cX10_said 17 = .ok (.aload_n 0, 1) := by decide +kernel
theorem dX10_said_18 : decode cX10_said 18 = .ok (.aload_n 0, 1) := by decide +kernel
theorem dX10_said_19 : decode cX10_said 19 = .ok (.getfield 58, 3) := by decide +kernel
theorem dX10_said_22 : decode cX10_said 22 = .ok (.aload_n 0, 1) := by decide +kernel
theorem dX10_said_23 : decode cX10_said 23 = .ok (.getfield 58, 3) := by decide +kernel
theorem dX10_said_26 : decode cX10_said 26 = .ok (.getfield 208, 3) := by decide +kernel
theorem dX10_said_29 : decode cX10_said 29 = .ok (.iload_n 1, 1) := by decide +kernel
theorem dX10_said_30 : decode cX10_said 30 = .ok (.aaload, 1) := by decide +kernel
theorem dX10_said_31 : decode cX10_said 31 = .ok (.iconst (-1), 1) := by decide +kernel
theorem dX10_said_32 : decode cX10_said 32 = .ok (.invokevirtual 272, 3) := by decide +kernel
theorem dX10_said_35 : decode cX10_said 35 = .ok (.ifCond .eq 7, 3) := by decide +kernel
theorem dX10_said_38 : decode cX10_said 38 = .ok (.iconst 1, 1) := by decide +kernel
theorem dX10_said_39 : decode cX10_said 39 = .ok (.goto 4, 3) := by decide +kernel
theorem dX10_said_42 : decode cX10_said 42 = .ok (.iconst 0, 1) := by decide +kernel
theorem dX10_said_43 : decode cX10_said 43 = .ok (.invokevirtual 156, 3) := by decide +kernel
theorem dX10_said_46 : decode cX10_said 46 = .ok (.ireturn, 1) := by decide +kernel
theorem dX10_stumbles_0 : decode cX10_stumbles 0 = .ok (.aload_n 0, 1) := by decide +kernel
theorem dX10_stumbles_1 : decode cX10_stumbles 1 = .ok (.getfield 58, 3) := by decide +kernel
theorem dX10_stumbles_4 : decode cX10_stumbles 4 = .ok (.iload_n 1, 1) := by decide +kernel
theorem dX10_stumbles_5 : decode cX10_stumbles 5 = .ok (.invokevirtual 205, 3) := by decide +kernel
theorem dX10_stumbles_8 : decode cX10_stumbles 8 = .ok (.ifCond .ne 9, 3) := by decide +kernel
theorem dX10_stumbles_11 : decode cX10_stumbles 11 = .ok (.aload_n 0, 1) := by decide +kernel
theorem dX10_stumbles_12 : decode cX10_stumbles 12 = .ok (.iconst 2, 1) := by decide +kernel
theorem dX10_stumbles_13 : decode cX10_stumbles 13 = .ok (.invokevirtual 111, 3) := by decide +kernel
theorem dX10_stumbles_16 : decode cX10_stumbles 16 = .ok (.ireturn, 1) := by decide +kernel
theorem dX10_stumbles_17 : decode cX10_stumbles 17 = .ok (.aload_n 0, 1) := by decide +kernel
theorem dX10_stumbles_18 : decode cX10_stumbles 18 = .ok (.getfield 58, 3) := by decide +kernel
theorem dX10_stumbles_21 : decode cX10_stumbles 21 = .ok (.getfield 275, 3) := by decide +kernel
theorem dX10_stumbles_24 : decode cX10_stumbles 24 = .ok (.aload_n 0, 1) := by decide +kernel
theorem dX10_stumbles_25 : decode cX10_stumbles 25 = .ok (.getfield 58, 3) := by decide +kernel
theorem dX10_stumbles_28 : decode cX10_stumbles 28 = .ok (.aload_n 0, 1) := by decide +kernel
theorem dX10_stumbles_29 : decode cX10_stumbles 29 = .ok (.getfield 58, 3) := by decide +kernel
theorem dX10_stumbles_32 : decode cX10_stumbles 32 = .ok (.getfield 208, 3) := by decide +kernel
theorem dX10_stumbles_35 : decode cX10_stumbles 35 = .ok (.iload_n 1, 1) := by decide +kernel
theorem dX10_stumbles_36 : decode cX10_stumbles 36 = .ok (.aaload, 1) := by decide +kernel
theorem dX10_stumbles_37 : decode cX10_stumbles 37 = .ok (.iconst (-1), 1) := by decide +kernel
theorem dX10_stumbles_38 : decode cX10_stumbles 38 = .ok (.invokevirtual 279, 3) := by decide +kernel
theorem dX10_stumbles_41 : decode cX10_stumbles 41 = .ok (.aload_n 0, 1) := by decide +kernel
theorem dX10_stumbles_42 : decode cX10_stumbles 42 = .ok (.aload_n 0, 1) := by decide +kernel
theorem dX10_stumbles_43 : decode cX10_stumbles 43 = .ok (.getfield 58, 3) := by decide +kernel
theorem dX10_stumbles_46 : decode cX10_stumbles 46 = .ok (.getfield 275, 3) := by decide +kernel
theorem dX10_stumbles_49 : decode cX10_stumbles 49 = .ok (.aload_n 0, 1) := by decide +kernel
theorem dX10_stumbles_50 : decode cX10_stumbles 50 = .ok (.getfield 58, 3) := by decide +kernel
theorem dX10_stumbles_53 : decode cX10_stumbles 53 = .ok (.getfield 174, 3) := by decide +kernel
theorem dX10_stumbles_56 : decode cX10_stumbles 56 = .ok (.invokevirtual 285, 3) := by decide +kernel
theorem dX10_stumbles_59 : decode cX10_stumbles 59 = .ok (.invokevirtual 199, 3) := by decide +kernel
theorem dX10_stumbles_62 : decode cX10_stumbles 62 = .ok (.ireturn, 1) := by decide +kernel
theorem dX10_drop_0 : decode cX10_drop 0 = .ok (.aload_n 0, 1) := by decide +kernel
theorem dX10_drop_1 : decode cX10_drop 1 = .ok (.getfield 58, 3) := by decide +kernel
theorem dX10_drop_4 : decode cX10_drop 4 = .ok (.iload_n 1, 1) := by decide +kernel
theorem dX10_drop_5 : decode cX10_drop 5 = .ok (.invokevirtual 205, 3) := by decide +kernel
theorem dX10_drop_8 : decode cX10_drop 8 = .ok (.ifCond .ne 9, 3) := by decide +kernel
theorem dX10_drop_11 : decode cX10_drop 11 = .ok (.aload_n 0, 1) := by decide +kernel
theorem dX10_drop_12 : decode cX10_drop 12 = .ok (.iconst 2, 1) := by decide +kernel
theorem dX10_drop_13 : decode cX10_drop 13 = .ok (.invokevirtual 111, 3) := by decide +kernel
theorem dX10_drop_16 : decode cX10_drop 16 = .ok (.ireturn, 1) := by decide +kernel
theorem dX10_drop_17 : decode cX10_drop 17 = .ok (.aload_n 0, 1) := by decide +kernel
theorem dX10_drop_18 : decode cX10_drop 18 = .ok (.getfield 58, 3) := by decide +kernel
theorem dX10_drop_21 : decode cX10_drop 21 = .ok (.getfield 208, 3) := by decide +kernel
theorem dX10_drop_24 : decode cX10_drop 24 = .ok (.iload_n 1, 1) := by decide +kernel
theorem dX10_drop_25 : decode cX10_drop 25 = .ok (.aaload, 1) := by decide +kernel
theorem dX10_drop_26 : decode cX10_drop 26 = .ok (.astore_n 2, 1) := by decide +kernel
theorem dX10_drop_27 : decode cX10_drop 27 = .ok (.aload_n 2, 1) := by decide +kernel
theorem dX10_drop_28 : decode cX10_drop 28 = .ok (.getfield 223, 3) := by decide +kernel
theorem dX10_drop_31 : decode cX10_drop 31 = .ok (.ifCond .ne 10, 3) := by decide +kernel
theorem dX10_drop_34 : decode cX10_drop 34 = .ok (.aload_n 0, 1) := by decide +kernel
theorem dX10_drop_35 : decode cX10_drop 35 = .ok (.bipush 8, 2) := by decide +kernel
theorem dX10_drop_37 : decode cX10_drop 37 = .ok (.invokevirtual 111, 3) := by decide +kernel
theorem dX10_drop_40 : decode cX10_drop 40 = .ok (.ireturn, 1) := by decide +kernel
theorem dX10_drop_41 : decode cX10_drop 41 = .ok (.aload_n 0, 1) := by decide +kernel
theorem dX10_drop_42 : decode cX10_drop 42 = .ok (.getfield 58, 3) := by decide +kernel
theorem dX10_drop_45 : decode cX10_drop 45 = .ok (.getfield 275, 3) := by decide +kernel
theorem dX10_drop_48 : decode cX10_drop 48 = .ok (.aload_n 0, 1) := by decide +kernel
theorem dX10_drop_49 : decode cX10_drop 49 = .ok (.getfield 58, 3) := by decide +kernel
theorem dX10_drop_52 : decode cX10_drop 52 = .ok (.aload_n 2, 1) := by decide +kernel
theorem dX10_drop_53 : decode cX10_drop 53 = .ok (.iconst (-1), 1) := by decide +kernel
theorem dX10_drop_54 : decode cX10_drop 54 = .ok (.invokevirtual 279, 3) := by decide +kernel
theorem dX10_drop_57 : decode cX10_drop 57 = .ok (.aload_n 0, 1) := by decide +kernel
theorem dX10_drop_58 : decode cX10_drop 58 = .ok (.aload_n 0, 1) := by decide +kernel
theorem dX10_drop_59 : decode cX10_drop 59 = .ok (.getfield 58, 3) := by decide +kernel
theorem dX10_drop_62 : decode cX10_drop 62 = .ok (.getfield 275, 3) := by decide +kernel
theorem dX10_drop_65 : decode cX10_drop 65 = .ok (.aload_n 0, 1) := by decide +kernel
theorem dX10_drop_66 : decode cX10_drop 66 = .ok (.getfield 58, 3) := by decide +kernel
theorem dX10_drop_69 : decode cX10_drop 69 = .ok (.getfield 174, 3) := by decide +kernel
theorem dX10_drop_72 : decode cX10_drop 72 = .ok (.invokevirtual 288, 3) := by decide +kernel
theorem dX10_drop_75 : decode cX10_drop 75 = .ok (.invokevirtual 156, 3) := by decide +kernel
theorem dX10_drop_78 : decode cX10_drop 78 = .ok (.ireturn, 1) := by decide +kernel
theorem dX10_firm_0 : decode cX10_firm 0 = .ok (.aload_n 0, 1) := by decide +kernel
theorem dX10_firm_1 : decode cX10_firm 1 = .ok (.getfield 58, 3) := by decide +kernel
theorem dX10_firm_4 : decode cX10_firm 4 = .ok (.iload_n 1, 1) := by decide +kernel
theorem dX10_firm_5 : decode cX10_firm 5 = .ok (.invokevirtual 205, 3) := by decide +kernel
theorem dX10_firm_8 : decode cX10_firm 8 = .ok (.ifCond .ne 9, 3) := by decide +kernel
theorem dX10_firm_11 : decode cX10_firm 11 = .ok (.aload_n 0, 1) := by decide +kernel
theorem dX10_firm_12 : decode cX10_firm 12 = .ok (.iconst 2, 1) := by decide +kernel
theorem dX10_firm_13 : decode cX10_firm 13 = .ok (.invokevirtual 111, 3) := by decide +kernel
theorem dX10_firm_16 : decode cX10_firm 16 = .ok (.ireturn, 1) := by decide +kernel
theorem dX10_firm_17 : decode cX10_firm 17 = .ok (.aload_n 0, 1) := by decide +kernel
theorem dX10_firm_18 : decode cX10_firm 18 = .ok (.getfield 58, 3) := by decide +kernel
theorem dX10_firm_21 : decode cX10_firm 21 = .ok (.getfield 208, 3) := by decide +kernel
theorem dX10_firm_24 : decode cX10_firm 24 = .ok (.iload_n 1, 1) := by decide +kernel
theorem dX10_firm_25 : decode cX10_firm 25 = .ok (.aaload, 1) := by decide +kernel
theorem dX10_firm_26 : decode cX10_firm 26 = .ok (.astore_n 2, 1) := by decide +kernel
theorem dX10_firm_27 : decode cX10_firm 27 = .ok (.aload_n 0, 1) := by decide +kernel
theorem dX10_firm_28 : decode cX10_firm 28 = .ok (.aload_n 0, 1) := by decide +kernel
theorem dX10_firm_29 : decode cX10_firm 29 = .ok (.getfield 58, 3) := by decide +kernel
theorem dX10_firm_32 : decode cX10_firm 32 = .ok (.aload_n 2, 1) := by decide +kernel
theorem dX10_firm_33 : decode cX10_firm 33 = .ok (.iconst (-1), 1) := by decide +kernel
theorem dX10_firm_34 : decode cX10_firm 34 = .ok (.invokevirtual 272, 3) := by decide +kernel
theorem dX10_firm_37 : decode cX10_firm 37 = .ok (.ifCond .eq 19, 3) := by decide +kernel
theorem dX10_firm_40 : decode cX10_firm 40 = .ok (.aload_n 0, 1) := by decide +kernel
theorem dX10_firm_41 : decode cX10_firm 41 = .ok (.getfield 58, 3) := by decide +kernel
theorem dX10_firm_44 : decode cX10_firm 44 = .ok (.aload_n 2, 1) := by decide +kernel
theorem dX10_firm_45 : decode cX10_firm 45 = .ok (.invokevirtual 291, 3) := by decide +kernel
theorem dX10_firm_48 : decode cX10_firm 48 = .ok (.iconst (-1), 1) := by decide +kernel
theorem dX10_firm_49 : decode cX10_firm 49 = .ok (.if_icmp .ne 7, 3) := by decide +kernel
theorem dX10_firm_52 : decode cX10_firm 52 = .ok (.iconst 1, 1) := by decide +kernel
theorem dX10_firm_53 : decode cX10_firm 53 = .ok (.goto 4, 3) := by decide +kernel
theorem dX10_firm_56 : decode cX10_firm 56 = .ok (.iconst 0, 1) := by decide +kernel
theorem dX10_firm_57 : decode cX10_firm 57 = .ok (.invokevirtual 156, 3) := by decide +kernel
theorem dX10_firm_60 : decode cX10_firm 60 = .ok (.ireturn, 1) := by decide +kernel
theorem dX10_weak_0 : decode cX10_weak 0 = .ok (.aload_n 0, 1) := by decide +kernel
theorem dX10_weak_1 : decode cX10_weak 1 = .ok (.getfield 58, 3) := by decide +kernel
theorem dX10_weak_4 : decode cX10_weak 4 = .ok (.iload_n 1, 1) := by decide +kernel
theorem dX10_weak_5 : decode cX10_weak 5 = .ok (.invokevirtual 205, 3) := by decide +kernel
theorem dX10_weak_8 : decode cX10_weak 8 = .ok (.ifCond .ne 9, 3) := by decide +kernel
theorem dX10_weak_11 : decode cX10_weak 11 = .ok (.aload_n 0, 1) := by decide +kernel
theorem dX10_weak_12 : decode cX10_weak 12 = .ok (.iconst 2, 1) := by decide +kernel
theorem dX10_weak_13 : decode cX10_weak 13 = .ok (.invokevirtual 111, 3) := by decide +kernel
theorem dX10_weak_16 : decode cX10_weak 16 = .ok (.ireturn, 1) := by decide +kernel
theorem dX10_weak_17 : decode cX10_weak 17 = .ok (.aload_n 0, 1) := by decide +kernel
theorem dX10_weak_18 : decode cX10_weak 18 = .ok (.aload_n 0, 1) := by decide +kernel
theorem dX10_weak_19 : decode cX10_weak 19 = .ok (.getfield 58, 3) := by decide +kernel
theorem dX10_weak_22 : decode cX10_weak 22 = .ok (.aload_n 0, 1) := by decide +kernel
theorem dX10_weak_23 : decode cX10_weak 23 = .ok (.getfield 58, 3) := by decide +kernel
theorem dX10_weak_26 : decode cX10_weak 26 = .ok (.getfield 208, 3) := by decide +kernel
theorem dX10_weak_29 : decode cX10_weak 29 = .ok (.iload_n 1, 1) := by decide +kernel
theorem dX10_weak_30 : decode cX10_weak 30 = .ok (.aaload, 1) := by decide +kernel
theorem dX10_weak_31 : decode cX10_weak 31 = .ok (.invokevirtual 291, 3) := by decide +kernel
theorem dX10_weak_34 : decode cX10_weak 34 = .ok (.invokevirtual 199, 3) := by decide +kernel
theorem dX10_weak_37 : decode cX10_weak 37 = .ok (.ireturn, 1) := by decide +kernel
theorem dX10_vowels_0 : decode cX10_vowels 0 = .ok (.aload_n 0, 1) := by decide +kernel
theorem dX10_vowels_1 : decode cX10_vowels 1 = .ok (.getfield 58, 3) := by decide +kernel
theorem dX10_vowels_4 : decode cX10_vowels 4 = .ok (.iload_n 1, 1) := by decide +kernel
theorem dX10_vowels_5 : decode cX10_vowels 5 = .ok (.invokevirtual 205, 3) := by decide +kernel
theorem dX10_vowels_8 : decode cX10_vowels 8 = .ok (.ifCond .ne 9, 3) := by decide +kernel
theorem dX10_vowels_11 : decode cX10_vowels 11 = .ok (.aload_n 0, 1) := by decide +kernel
theorem dX10_vowels_12 : decode cX10_vowels 12 = .ok (.iconst 2, 1) := by decide +kernel
theorem dX10_vowels_13 : decode cX10_vowels 13 = .ok (.invokevirtual 111, 3) := by decide +kernel
theorem dX10_vowels_16 : decode cX10_vowels 16 = .ok (.ireturn, 1) := by decide +kernel
theorem dX10_vowels_17 : decode cX10_vowels 17 = .ok (.aload_n 0, 1) := by decide +kernel
theorem dX10_vowels_18 : decode cX10_vowels 18 = .ok (.getfield 58, 3) := by decide +kernel
theorem dX10_vowels_21 : decode cX10_vowels 21 = .ok (.getfield 275, 3) := by decide +kernel
theorem dX10_vowels_24 : decode cX10_vowels 24 = .ok (.astore_n 2, 1) := by decide +kernel
theorem dX10_vowels_25 : decode cX10_vowels 25 = .ok (.aload_n 2, 1) := by decide +kernel
theorem dX10_vowels_26 : decode cX10_vowels 26 = .ok (.aload_n 0, 1) := by decide +kernel
theorem dX10_vowels_27 : decode cX10_vowels 27 = .ok (.getfield 58, 3) := by decide +kernel
theorem dX10_vowels_30 : decode cX10_vowels 30 = .ok (.aload_n 0, 1) := by decide +kernel
theorem dX10_vowels_31 : decode cX10_vowels 31 = .ok (.getfield 58, 3) := by decide +kernel
theorem dX10_vowels_34 : decode cX10_vowels 34 = .ok (.getfield 208, 3) := by decide +kernel
theorem dX10_vowels_37 : decode cX10_vowels 37 = .ok (.iload_n 1, 1) := by decide +kernel
theorem dX10_vowels_38 : decode cX10_vowels 38 = .ok (.aaload, 1) := by decide +kernel
theorem dX10_vowels_39 : decode cX10_vowels 39 = .ok (.iconst (-1), 1) := by decide +kernel
theorem dX10_vowels_40 : decode cX10_vowels 40 = .ok (.invokevirtual 279, 3) := by decide +kernel
theorem dX10_vowels_43 : decode cX10_vowels 43 = .ok (.iconst 0, 1) := by decide +kernel
theorem dX10_vowels_44 : decode cX10_vowels 44 = .ok (.istore_n 3, 1) := by decide +kernel
theorem dX10_vowels_45 : decode cX10_vowels 45 = .ok (.iconst 0, 1) := by decide +kernel
theorem dX10_vowels_46 : decode cX10_vowels 46 = .ok (.istore 4, 2) := by decide +kernel
theorem dX10_vowels_48 : decode cX10_vowels 48 = .ok (.iload 4, 2) := by decide +kernel
theorem dX10_vowels_50 : decode cX10_vowels 50 = .ok (.aload_n 2, 1) := by decide +kernel
theorem dX10_vowels_51 : decode cX10_vowels 51 = .ok (.getfield 294, 3) := by decide +kernel
theorem dX10_vowels_54 : decode cX10_vowels 54 = .ok (.if_icmp .ge 22, 3) := by decide +kernel
theorem dX10_vowels_57 : decode cX10_vowels 57 = .ok (.aload_n 2, 1) := by decide +kernel
theorem dX10_vowels_58 : decode cX10_vowels 58 = .ok (.getfield 295, 3) := by decide +kernel
theorem dX10_vowels_61 : decode cX10_vowels 61 = .ok (.iload 4, 2) := by decide +kernel
theorem dX10_vowels_63 : decode cX10_vowels 63 = .ok (.baload, 1) := by decide +kernel
theorem dX10_vowels_64 : decode cX10_vowels 64 = .ok (.ifCond .eq 6, 3) := by decide +kernel
theorem dX10_vowels_67 : decode cX10_vowels 67 = .ok (.iinc 3 1, 3) := by decide +kernel
theorem dX10_vowels_70 : decode cX10_vowels 70 = .ok (.iinc 4 1, 3) := by decide +kernel
theorem dX10_vowels_73 : decode cX10_vowels 73 = .ok (.goto (-25), 3) := by decide +kernel
theorem dX10_vowels_76 : decode cX10_vowels 76 = .ok (.aload_n 0, 1) := by decide +kernel
theorem dX10_vowels_77 : decode cX10_vowels 77 = .ok (.iload_n 3, 1) := by decide +kernel
theorem dX10_vowels_78 : decode cX10_vowels 78 = .ok (.invokevirtual 156, 3) := by decide +kernel
theorem dX10_vowels_81 : decode cX10_vowels 81 = .ok (.ireturn, 1) := by decide +kernel
theorem dX10_rhyme_0 : decode cX10_rhyme 0 = .ok (.aload_n 0, 1) := by decide +kernel
theorem dX10_rhyme_1 : decode cX10_rhyme 1 = .ok (.iload_n 1, 1) := by decide +kernel
theorem dX10_rhyme_2 : decode cX10_rhyme 2 = .ok (.iload_n 2, 1) := by decide +kernel
theorem dX10_rhyme_3 : decode cX10_rhyme 3 = .ok (.invokevirtual 299, 3) := by decide +kernel
theorem dX10_rhyme_6 : decode cX10_rhyme 6 = .ok (.istore_n 3, 1) := by decide +kernel
theorem dX10_rhyme_7 : decode cX10_rhyme 7 = .ok (.iload_n 3, 1) := by decide +kernel
theorem dX10_rhyme_8 : decode cX10_rhyme 8 = .ok (.ifCond .eq 9, 3) := by decide +kernel
theorem dX10_rhyme_11 : decode cX10_rhyme 11 = .ok (.aload_n 0, 1) := by decide +kernel
theorem dX10_rhyme_12 : decode cX10_rhyme 12 = .ok (.iload_n 3, 1) := by decide +kernel
theorem dX10_rhyme_13 : decode cX10_rhyme 13 = .ok (.invokevirtual 111, 3) := by decide +kernel
theorem dX10_rhyme_16 : decode cX10_rhyme 16 = .ok (.ireturn, 1) := by decide +kernel
theorem dX10_rhyme_17 : decode cX10_rhyme 17 = .ok (.aload_n 0, 1) := by decide +kernel
theorem dX10_rhyme_18 : decode cX10_rhyme 18 = .ok (.aload_n 0, 1) := by decide +kernel
theorem dX10_rhyme_19 : decode cX10_rhyme 19 = .ok (.getfield 58, 3) := by decide +kernel
theorem dX10_rhyme_22 : decode cX10_rhyme 22 = .ok (.aload_n 0, 1) := by decide +kernel
theorem dX10_rhyme_23 : decode cX10_rhyme 23 = .ok (.getfield 58, 3) := by decide +kernel
theorem dX10_rhyme_26 : decode cX10_rhyme 26 = .ok (.getfield 208, 3) := by decide +kernel
theorem dX10_rhyme_29 : decode cX10_rhyme 29 = .ok (.iload_n 1, 1) := by decide +kernel
theorem dX10_rhyme_30 : decode cX10_rhyme 30 = .ok (.aaload, 1) := by decide +kernel
theorem dX10_rhyme_31 : decode cX10_rhyme 31 = .ok (.aload_n 0, 1) := by decide +kernel
theorem dX10_rhyme_32 : decode cX10_rhyme 32 = .ok (.getfield 58, 3) := by decide +kernel
theorem dX10_rhyme_35 : decode cX10_rhyme 35 = .ok (.getfield 208, 3) := by decide +kernel
theorem dX10_rhyme_38 : decode cX10_rhyme 38 = .ok (.iload_n 2, 1) := by decide +kernel
theorem dX10_rhyme_39 : decode cX10_rhyme 39 = .ok (.aaload, 1) := by decide +kernel
theorem dX10_rhyme_40 : decode cX10_rhyme 40 = .ok (.invokevirtual 302, 3) := by decide +kernel
theorem dX10_rhyme_43 : decode cX10_rhyme 43 = .ok (.invokevirtual 156, 3) := by decide +kernel
theorem dX10_rhyme_46 : decode cX10_rhyme 46 = .ok (.ireturn, 1) := by decide +kernel
theorem dX10_apart_0 : decode cX10_apart 0 = .ok (.aload_n 0, 1) := by decide +kernel
theorem dX10_apart_1 : decode cX10_apart 1 = .ok (.iload_n 1, 1) := by decide +kernel
theorem dX10_apart_2 : decode cX10_apart 2 = .ok (.iload_n 2, 1) := by decide +kernel
theorem dX10_apart_3 : decode cX10_apart 3 = .ok (.invokevirtual 299, 3) := by decide +kernel
theorem dX10_apart_6 : decode cX10_apart 6 = .ok (.istore_n 3, 1) := by decide +kernel
theorem dX10_apart_7 : decode cX10_apart 7 = .ok (.iload_n 3, 1) := by decide +kernel
theorem dX10_apart_8 : decode cX10_apart 8 = .ok (.ifCond .eq 9, 3) := by decide +kernel
theorem dX10_apart_11 : decode cX10_apart 11 = .ok (.aload_n 0, 1) := by decide +kernel
theorem dX10_apart_12 : decode cX10_apart 12 = .ok (.iload_n 3, 1) := by decide +kernel
theorem dX10_apart_13 : decode cX10_apart 13 = .ok (.invokevirtual 111, 3) := by decide +kernel
theorem dX10_apart_16 : decode cX10_apart 16 = .ok (.ireturn, 1) := by decide +kernel
theorem dX10_apart_17 : decode cX10_apart 17 = .ok (.aload_n 0, 1) := by decide +kernel
theorem dX10_apart_18 : decode cX10_apart 18 = .ok (.aload_n 0, 1) := by decide +kernel
theorem dX10_apart_19 : decode cX10_apart 19 = .ok (.getfield 58, 3) := by decide +kernel
theorem dX10_apart_22 : decode cX10_apart 22 = .ok (.aload_n 0, 1) := by decide +kernel
theorem dX10_apart_23 : decode cX10_apart 23 = .ok (.getfield 58, 3) := by decide +kernel
theorem dX10_apart_26 : decode cX10_apart 26 = .ok (.getfield 208, 3) := by decide +kernel
theorem dX10_apart_29 : decode cX10_apart 29 = .ok (.iload_n 1, 1) := by decide +kernel
theorem dX10_apart_30 : decode cX10_apart 30 = .ok (.aaload, 1) := by decide +kernel
theorem dX10_apart_31 : decode cX10_apart 31 = .ok (.aload_n 0, 1) := by decide +kernel
theorem dX10_apart_32 : decode cX10_apart 32 = .ok (.getfield 58, 3) := by decide +kernel
theorem dX10_apart_35 : decode cX10_apart 35 = .ok (.getfield 208, 3) := by decide +kernel
theorem dX10_apart_38 : decode cX10_apart 38 = .ok (.iload_n 2, 1) := by decide +kernel
theorem dX10_apart_39 : decode cX10_apart 39 = .ok (.aaload, 1) := by decide +kernel
theorem dX10_apart_40 : decode cX10_apart 40 = .ok (.invokevirtual 306, 3) := by decide +kernel
theorem dX10_apart_43 : decode cX10_apart 43 = .ok (.invokevirtual 199, 3) := by decide +kernel
theorem dX10_apart_46 : decode cX10_apart 46 = .ok (.ireturn, 1) := by decide +kernel
theorem dX10_behind_0 : decode cX10_behind 0 = .ok (.aload_n 0, 1) := by decide +kernel
theorem dX10_behind_1 : decode cX10_behind 1 = .ok (.iload_n 1, 1) := by decide +kernel
theorem dX10_behind_2 : decode cX10_behind 2 = .ok (.iload_n 2, 1) := by decide +kernel
theorem dX10_behind_3 : decode cX10_behind 3 = .ok (.invokevirtual 299, 3) := by decide +kernel
theorem dX10_behind_6 : decode cX10_behind 6 = .ok (.istore_n 3, 1) := by decide +kernel
theorem dX10_behind_7 : decode cX10_behind 7 = .ok (.iload_n 3, 1) := by decide +kernel
theorem dX10_behind_8 : decode cX10_behind 8 = .ok (.ifCond .eq 9, 3) := by decide +kernel
theorem dX10_behind_11 : decode cX10_behind 11 = .ok (.aload_n 0, 1) := by decide +kernel
theorem dX10_behind_12 : decode cX10_behind 12 = .ok (.iload_n 3, 1) := by decide +kernel
theorem dX10_behind_13 : decode cX10_behind 13 = .ok (.invokevirtual 111, 3) := by decide +kernel
theorem dX10_behind_16 : decode cX10_behind 16 = .ok (.ireturn, 1) := by decide +kernel
theorem dX10_behind_17 : decode cX10_behind 17 = .ok (.aload_n 0, 1) := by decide +kernel
theorem dX10_behind_18 : decode cX10_behind 18 = .ok (.getfield 58, 3) := by decide +kernel
theorem dX10_behind_21 : decode cX10_behind 21 = .ok (.getfield 208, 3) := by decide +kernel
theorem dX10_behind_24 : decode cX10_behind 24 = .ok (.iload_n 1, 1) := by decide +kernel
theorem dX10_behind_25 : decode cX10_behind 25 = .ok (.aaload, 1) := by decide +kernel
theorem dX10_behind_26 : decode cX10_behind 26 = .ok (.astore 4, 2) := by decide +kernel
theorem dX10_behind_28 : decode cX10_behind 28 = .ok (.aload_n 0, 1) := by decide +kernel
theorem dX10_behind_29 : decode cX10_behind 29 = .ok (.getfield 58, 3) := by decide +kernel
theorem dX10_behind_32 : decode cX10_behind 32 = .ok (.getfield 208, 3) := by decide +kernel
theorem dX10_behind_35 : decode cX10_behind 35 = .ok (.iload_n 2, 1) := by decide +kernel
theorem dX10_behind_36 : decode cX10_behind 36 = .ok (.aaload, 1) := by decide +kernel
theorem dX10_behind_37 : decode cX10_behind 37 = .ok (.astore 5, 2) := by decide +kernel
theorem dX10_behind_39 : decode cX10_behind 39 = .ok (.aload_n 0, 1) := by decide +kernel
theorem dX10_behind_40 : decode cX10_behind 40 = .ok (.getfield 58, 3) := by decide +kernel
theorem dX10_behind_43 : decode cX10_behind 43 = .ok (.aload 4, 2) := by decide +kernel
theorem dX10_behind_45 : decode cX10_behind 45 = .ok (.aload 5, 2) := by decide +kernel
theorem dX10_behind_47 : decode cX10_behind 47 = .ok (.invokevirtual 306, 3) := by decide +kernel
theorem dX10_behind_50 : decode cX10_behind 50 = .ok (.iconst (-1), 1) := by decide +kernel
theorem dX10_behind_51 : decode cX10_behind 51 = .ok (.if_icmp .eq 10, 3) := by decide +kernel
theorem dX10_behind_54 : decode cX10_behind 54 = .ok (.aload_n 0, 1) := by decide +kernel
theorem dX10_behind_55 : decode cX10_behind 55 = .ok (.bipush 9, 2) := by decide +kernel
theorem dX10_behind_57 : decode cX10_behind 57 = .ok (.invokevirtual 111, 3) := by decide +kernel
theorem dX10_behind_60 : decode cX10_behind 60 = .ok (.ireturn, 1) := by decide +kernel
theorem dX10_behind_61 : decode cX10_behind 61 = .ok (.iconst 0, 1) := by decide +kernel
theorem dX10_behind_62 : decode cX10_behind 62 = .ok (.istore 6, 2) := by decide +kernel
theorem dX10_behind_64 : decode cX10_behind 64 = .ok (.iload 6, 2) := by decide +kernel
theorem dX10_behind_66 : decode cX10_behind 66 = .ok (.aload 4, 2) := by decide +kernel
theorem dX10_behind_68 : decode cX10_behind 68 = .ok (.getfield 223, 3) := by decide +kernel
theorem dX10_behind_71 : decode cX10_behind 71 = .ok (.if_icmp .ge 45, 3) := by decide +kernel
theorem dX10_behind_74 : decode cX10_behind 74 = .ok (.iload 6, 2) := by decide +kernel
theorem dX10_behind_76 : decode cX10_behind 76 = .ok (.aload 5, 2) := by decide +kernel
theorem dX10_behind_78 : decode cX10_behind 78 = .ok (.getfield 223, 3) := by decide +kernel
theorem dX10_behind_81 : decode cX10_behind 81 = .ok (.if_icmp .ge 35, 3) := by decide +kernel
theorem dX10_behind_84 : decode cX10_behind 84 = .ok (.aload 4, 2) := by decide +kernel
theorem dX10_behind_86 : decode cX10_behind 86 = .ok (.getfield 236, 3) := by decide +kernel
theorem dX10_behind_89 : decode cX10_behind 89 = .ok (.iload 6, 2) := by decide +kernel
theorem dX10_behind_91 : decode cX10_behind 91 = .ok (.iaload, 1) := by decide +kernel
theorem dX10_behind_92 : decode cX10_behind 92 = .ok (.aload 5, 2) := by decide +kernel
theorem dX10_behind_94 : decode cX10_behind 94 = .ok (.getfield 236, 3) := by decide +kernel
theorem dX10_behind_97 : decode cX10_behind 97 = .ok (.iload 6, 2) := by decide +kernel
theorem dX10_behind_99 : decode cX10_behind 99 = .ok (.iaload, 1) := by decide +kernel
theorem dX10_behind_100 : decode cX10_behind 100 = .ok (.if_icmp .eq 10, 3) := by decide +kernel
theorem dX10_behind_103 : decode cX10_behind 103 = .ok (.aload_n 0, 1) := by decide +kernel
theorem dX10_behind_104 : decode cX10_behind 104 = .ok (.iload 6, 2) := by decide +kernel
theorem dX10_behind_106 : decode cX10_behind 106 = .ok (.invokevirtual 156, 3) := by decide +kernel
theorem dX10_behind_109 : decode cX10_behind 109 = .ok (.ireturn, 1) := by decide +kernel
theorem dX10_behind_110 : decode cX10_behind 110 = .ok (.iinc 6 1, 3) := by decide +kernel
theorem dX10_behind_113 : decode cX10_behind 113 = .ok (.goto (-49), 3) := by decide +kernel
theorem dX10_behind_116 : decode cX10_behind 116 = .ok (.aload_n 0, 1) := by decide +kernel
theorem dX10_behind_117 : decode cX10_behind 117 = .ok (.bipush 8, 2) := by decide +kernel
theorem dX10_behind_119 : decode cX10_behind 119 = .ok (.invokevirtual 111, 3) := by decide +kernel
theorem dX10_behind_122 : decode cX10_behind 122 = .ok (.ireturn, 1) := by decide +kernel
theorem dX10_life_0 : decode cX10_life 0 = .ok (.aload_n 0, 1) := by decide +kernel
theorem dX10_life_1 : decode cX10_life 1 = .ok (.iload_n 1, 1) := by decide +kernel
theorem dX10_life_2 : decode cX10_life 2 = .ok (.iload_n 2, 1) := by decide +kernel
theorem dX10_life_3 : decode cX10_life 3 = .ok (.iconst 1, 1) := by decide +kernel
theorem dX10_life_4 : decode cX10_life 4 = .ok (.invokevirtual 309, 3) := by decide +kernel
theorem dX10_life_7 : decode cX10_life 7 = .ok (.istore_n 3, 1) := by decide +kernel
theorem dX10_life_8 : decode cX10_life 8 = .ok (.iload_n 3, 1) := by decide +kernel
theorem dX10_life_9 : decode cX10_life 9 = .ok (.ifCond .eq 9, 3) := by decide +kernel
theorem dX10_life_12 : decode cX10_life 12 = .ok (.aload_n 0, 1) := by decide +kernel
theorem dX10_life_13 : decode cX10_life 13 = .ok (.iload_n 3, 1) := by decide +kernel
theorem dX10_life_14 : decode cX10_life 14 = .ok (.invokevirtual 111, 3) := by decide +kernel
theorem dX10_life_17 : decode cX10_life 17 = .ok (.ireturn, 1) := by decide +kernel
theorem dX10_life_18 : decode cX10_life 18 = .ok (.aload_n 0, 1) := by decide +kernel
theorem dX10_life_19 : decode cX10_life 19 = .ok (.getfield 11, 3) := by decide +kernel
theorem dX10_life_22 : decode cX10_life 22 = .ok (.iload_n 1, 1) := by decide +kernel
theorem dX10_life_23 : decode cX10_life 23 = .ok (.aaload, 1) := by decide +kernel
theorem dX10_life_24 : decode cX10_life 24 = .ok (.astore 4, 2) := by decide +kernel
theorem dX10_life_26 : decode cX10_life 26 = .ok (.aload_n 0, 1) := by decide +kernel
theorem dX10_life_27 : decode cX10_life 27 = .ok (.getfield 58, 3) := by decide +kernel
theorem dX10_life_30 : decode cX10_life 30 = .ok (.aload 4, 2) := by decide +kernel
theorem dX10_life_32 : decode cX10_life 32 = .ok (.iload_n 2, 1) := by decide +kernel
theorem dX10_life_33 : decode cX10_life 33 = .ok (.invokevirtual 313, 3) := by decide +kernel
theorem dX10_life_36 : decode cX10_life 36 = .ok (.ifCond .ne 9, 3) := by decide +kernel
theorem dX10_life_39 : decode cX10_life 39 = .ok (.aload_n 0, 1) := by decide +kernel
theorem dX10_life_40 : decode cX10_life 40 = .ok (.iconst 2, 1) := by decide +kernel
theorem dX10_life_41 : decode cX10_life 41 = .ok (.invokevirtual 111, 3) := by decide +kernel
theorem dX10_life_44 : decode cX10_life 44 = .ok (.ireturn, 1) := by decide +kernel
theorem dX10_life_45 : decode cX10_life 45 = .ok (.aload_n 0, 1) := by decide +kernel
theorem dX10_life_46 : decode cX10_life 46 = .ok (.aload_n 0, 1) := by decide +kernel
theorem dX10_life_47 : decode cX10_life 47 = .ok (.getfield 58, 3) := by decide +kernel
theorem dX10_life_50 : decode cX10_life 50 = .ok (.aload 4, 2) := by decide +kernel
theorem dX10_life_52 : decode cX10_life 52 = .ok (.iload_n 2, 1) := by decide +kernel
theorem dX10_life_53 : decode cX10_life 53 = .ok (.iconst 0, 1) := by decide +kernel
theorem dX10_life_54 : decode cX10_life 54 = .ok (.invokevirtual 317, 3) := by decide +kernel
theorem dX10_life_57 : decode cX10_life 57 = .ok (.invokevirtual 199, 3) := by decide +kernel
theorem dX10_life_60 : decode cX10_life 60 = .ok (.ireturn, 1) := by decide +kernel
theorem dX10_soonest_0 : decode cX10_soonest 0 = .ok (.aload_n 0, 1) := by decide +kernel
theorem dX10_soonest_1 : decode cX10_soonest 1 = .ok (.iload_n 1, 1) := by decide +kernel
theorem dX10_soonest_2 : decode cX10_soonest 2 = .ok (.iload_n 2, 1) := by decide +kernel
theorem dX10_soonest_3 : decode cX10_soonest 3 = .ok (.invokevirtual 321, 3) := by decide +kernel
theorem dX10_soonest_6 : decode cX10_soonest 6 = .ok (.istore_n 3, 1) := by decide +kernel
theorem dX10_soonest_7 : decode cX10_soonest 7 = .ok (.iload_n 3, 1) := by decide +kernel
theorem dX10_soonest_8 : decode cX10_soonest 8 = .ok (.ifCond .eq 9, 3) := by decide +kernel
theorem dX10_soonest_11 : decode cX10_soonest 11 = .ok (.aload_n 0, 1) := by decide +kernel
theorem dX10_soonest_12 : decode cX10_soonest 12 = .ok (.iload_n 3, 1) := by decide +kernel
theorem dX10_soonest_13 : decode cX10_soonest 13 = .ok (.invokevirtual 111, 3) := by decide +kernel
theorem dX10_soonest_16 : decode cX10_soonest 16 = .ok (.ireturn, 1) := by decide +kernel
theorem dX10_soonest_17 : decode cX10_soonest 17 = .ok (.aload_n 0, 1) := by decide +kernel
theorem dX10_soonest_18 : decode cX10_soonest 18 = .ok (.aload_n 0, 1) := by decide +kernel
theorem dX10_soonest_19 : decode cX10_soonest 19 = .ok (.getfield 47, 3) := by decide +kernel
theorem dX10_soonest_22 : decode cX10_soonest 22 = .ok (.aload_n 0, 1) := by decide +kernel
theorem dX10_soonest_23 : decode cX10_soonest 23 = .ok (.getfield 58, 3) := by decide +kernel
theorem dX10_soonest_26 : decode cX10_soonest 26 = .ok (.iconst 0, 1) := by decide +kernel
theorem dX10_soonest_27 : decode cX10_soonest 27 = .ok (.invokevirtual 324, 3) := by decide +kernel
theorem dX10_soonest_30 : decode cX10_soonest 30 = .ok (.invokevirtual 199, 3) := by decide +kernel
theorem dX10_soonest_33 : decode cX10_soonest 33 = .ok (.ireturn, 1) := by decide +kernel
theorem dX10_cheapest_0 : decode cX10_cheapest 0 = .ok (.aload_n 0, 1) := by decide +kernel
theorem dX10_cheapest_1 : decode cX10_cheapest 1 = .ok (.iload_n 1, 1) := by decide +kernel
theorem dX10_cheapest_2 : decode cX10_cheapest 2 = .ok (.iload_n 2, 1) := by decide +kernel
theorem dX10_cheapest_3 : decode cX10_cheapest 3 = .ok (.invokevirtual 321, 3) := by decide +kernel
theorem dX10_cheapest_6 : decode cX10_cheapest 6 = .ok (.istore_n 3, 1) := by decide +kernel
theorem dX10_cheapest_7 : decode cX10_cheapest 7 = .ok (.iload_n 3, 1) := by decide +kernel
theorem dX10_cheapest_8 : decode cX10_cheapest 8 = .ok (.ifCond .eq 9, 3) := by decide +kernel
theorem dX10_cheapest_11 : decode cX10_cheapest 11 = .ok (.aload_n 0, 1) := by decide +kernel
theorem dX10_cheapest_12 : decode cX10_cheapest 12 = .ok (.iload_n 3, 1) := by decide +kernel
theorem dX10_cheapest_13 : decode cX10_cheapest 13 = .ok (.invokevirtual 111, 3) := by decide +kernel
theorem dX10_cheapest_16 : decode cX10_cheapest 16 = .ok (.ireturn, 1) := by decide +kernel
theorem dX10_cheapest_17 : decode cX10_cheapest 17 = .ok (.aload_n 0, 1) := by decide +kernel
theorem dX10_cheapest_18 : decode cX10_cheapest 18 = .ok (.aload_n 0, 1) := by decide +kernel
theorem dX10_cheapest_19 : decode cX10_cheapest 19 = .ok (.getfield 47, 3) := by decide +kernel
theorem dX10_cheapest_22 : decode cX10_cheapest 22 = .ok (.aload_n 0, 1) := by decide +kernel
theorem dX10_cheapest_23 : decode cX10_cheapest 23 = .ok (.getfield 58, 3) := by decide +kernel
theorem dX10_cheapest_26 : decode cX10_cheapest 26 = .ok (.iconst 1, 1) := by decide +kernel
theorem dX10_cheapest_27 : decode cX10_cheapest 27 = .ok (.invokevirtual 324, 3) := by decide +kernel
theorem dX10_cheapest_30 : decode cX10_cheapest 30 = .ok (.invokevirtual 199, 3) := by decide +kernel
theorem dX10_cheapest_33 : decode cX10_cheapest 33 = .ok (.ireturn, 1) := by decide +kernel
theorem dX10_ways_0 : decode cX10_ways 0 = .ok (.aload_n 0, 1) := by decide +kernel
theorem dX10_ways_1 : decode cX10_ways 1 = .ok (.iload_n 1, 1) := by decide +kernel
theorem dX10_ways_2 : decode cX10_ways 2 = .ok (.iload_n 2, 1) := by decide +kernel
theorem dX10_ways_3 : decode cX10_ways 3 = .ok (.invokevirtual 321, 3) := by decide +kernel
theorem dX10_ways_6 : decode cX10_ways 6 = .ok (.istore_n 3, 1) := by decide +kernel
theorem dX10_ways_7 : decode cX10_ways 7 = .ok (.iload_n 3, 1) := by decide +kernel
theorem dX10_ways_8 : decode cX10_ways 8 = .ok (.ifCond .eq 10, 3) := by decide +kernel
theorem dX10_ways_11 : decode cX10_ways 11 = .ok (.aload_n 0, 1) := by decide +kernel
theorem dX10_ways_12 : decode cX10_ways 12 = .ok (.iload_n 3, 1) := by decide +kernel
theorem dX10_ways_13 : decode cX10_ways 13 = .ok (.invokevirtual 111, 3) := by decide +kernel
theorem dX10_ways_16 : decode cX10_ways 16 = .ok (.i2l, 1) := by decide +kernel
theorem dX10_ways_17 : decode cX10_ways 17 = .ok (.lreturn, 1) := by decide +kernel
theorem dX10_ways_18 : decode cX10_ways 18 = .ok (.aload_n 0, 1) := by decide +kernel
theorem dX10_ways_19 : decode cX10_ways 19 = .ok (.iconst 0, 1) := by decide +kernel
theorem dX10_ways_20 : decode cX10_ways 20 = .ok (.putfield 82, 3) := by decide +kernel
theorem dX10_ways_23 : decode cX10_ways 23 = .ok (.aload_n 0, 1) := by decide +kernel
theorem dX10_ways_24 : decode cX10_ways 24 = .ok (.getfield 47, 3) := by decide +kernel
theorem dX10_ways_27 : decode cX10_ways 27 = .ok (.aload_n 0, 1) := by decide +kernel
theorem dX10_ways_28 : decode cX10_ways 28 = .ok (.getfield 58, 3) := by decide +kernel
theorem dX10_ways_31 : decode cX10_ways 31 = .ok (.invokevirtual 328, 3) := by decide +kernel
theorem dX10_ways_34 : decode cX10_ways 34 = .ok (.lreturn, 1) := by decide +kernel
theorem dX10_first_0 : decode cX10_first 0 = .ok (.aload_n 0, 1) := by decide +kernel
theorem dX10_first_1 : decode cX10_first 1 = .ok (.iload_n 1, 1) := by decide +kernel
theorem dX10_first_2 : decode cX10_first 2 = .ok (.iload_n 2, 1) := by decide +kernel
theorem dX10_first_3 : decode cX10_first 3 = .ok (.invokevirtual 321, 3) := by decide +kernel
theorem dX10_first_6 : decode cX10_first 6 = .ok (.istore_n 3, 1) := by decide +kernel
theorem dX10_first_7 : decode cX10_first 7 = .ok (.iload_n 3, 1) := by decide +kernel
theorem dX10_first_8 : decode cX10_first 8 = .ok (.ifCond .eq 9, 3) := by decide +kernel
theorem dX10_first_11 : decode cX10_first 11 = .ok (.aload_n 0, 1) := by decide +kernel
theorem dX10_first_12 : decode cX10_first 12 = .ok (.iload_n 3, 1) := by decide +kernel
theorem dX10_first_13 : decode cX10_first 13 = .ok (.invokevirtual 111, 3) := by decide +kernel
theorem dX10_first_16 : decode cX10_first 16 = .ok (.ireturn, 1) := by decide +kernel
theorem dX10_first_17 : decode cX10_first 17 = .ok (.aload_n 0, 1) := by decide +kernel
theorem dX10_first_18 : decode cX10_first 18 = .ok (.getfield 47, 3) := by decide +kernel
theorem dX10_first_21 : decode cX10_first 21 = .ok (.aload_n 0, 1) := by decide +kernel
theorem dX10_first_22 : decode cX10_first 22 = .ok (.getfield 58, 3) := by decide +kernel
theorem dX10_first_25 : decode cX10_first 25 = .ok (.invokevirtual 332, 3) := by decide +kernel
theorem dX10_first_28 : decode cX10_first 28 = .ok (.ifCond .eq 17, 3) := by decide +kernel
theorem dX10_first_31 : decode cX10_first 31 = .ok (.aload_n 0, 1) := by decide +kernel
theorem dX10_first_32 : decode cX10_first 32 = .ok (.aload_n 0, 1) := by decide +kernel
theorem dX10_first_33 : decode cX10_first 33 = .ok (.getfield 47, 3) := by decide +kernel
theorem dX10_first_36 : decode cX10_first 36 = .ok (.getfield 336, 3) := by decide +kernel
theorem dX10_first_39 : decode cX10_first 39 = .ok (.invokevirtual 156, 3) := by decide +kernel
theorem dX10_first_42 : decode cX10_first 42 = .ok (.goto 9, 3) := by decide +kernel
theorem dX10_first_45 : decode cX10_first 45 = .ok (.aload_n 0, 1) := by decide +kernel
theorem dX10_first_46 : decode cX10_first 46 = .ok (.bipush 8, 2) := by decide +kernel
theorem dX10_first_48 : decode cX10_first 48 = .ok (.invokevirtual 111, 3) := by decide +kernel
theorem dX10_first_51 : decode cX10_first 51 = .ok (.ireturn, 1) := by decide +kernel
theorem dX10_firstAt_0 : decode cX10_firstAt 0 = .ok (.iload_n 1, 1) := by decide +kernel
theorem dX10_firstAt_1 : decode cX10_firstAt 1 = .ok (.ifCond .lt 14, 3) := by decide +kernel
theorem dX10_firstAt_4 : decode cX10_firstAt 4 = .ok (.iload_n 1, 1) := by decide +kernel
theorem dX10_firstAt_5 : decode cX10_firstAt 5 = .ok (.aload_n 0, 1) := by decide +kernel
theorem dX10_firstAt_6 : decode cX10_firstAt 6 = .ok (.getfield 47, 3) := by decide +kernel
theorem dX10_firstAt_9 : decode cX10_firstAt 9 = .ok (.getfield 336, 3) := by decide +kernel
theorem dX10_firstAt_12 : decode cX10_firstAt 12 = .ok (.if_icmp .lt 10, 3) := by decide +kernel
theorem dX10_firstAt_15 : decode cX10_firstAt 15 = .ok (.aload_n 0, 1) := by decide +kernel
theorem dX10_firstAt_16 : decode cX10_firstAt 16 = .ok (.bipush 8, 2) := by decide +kernel
theorem dX10_firstAt_18 : decode cX10_firstAt 18 = .ok (.invokevirtual 111, 3) := by decide +kernel
theorem dX10_firstAt_21 : decode cX10_firstAt 21 = .ok (.ireturn, 1) := by decide +kernel
theorem dX10_firstAt_22 : decode cX10_firstAt 22 = .ok (.aload_n 0, 1) := by decide +kernel
theorem dX10_firstAt_23 : decode cX10_firstAt 23 = .ok (.aload_n 0, 1) := by decide +kernel
theorem dX10_firstAt_24 : decode cX10_firstAt 24 = .ok (.getfield 47, 3) := by decide +kernel
theorem dX10_firstAt_27 : decode cX10_firstAt 27 = .ok (.getfield 339, 3) := by decide +kernel
theorem dX10_firstAt_30 : decode cX10_firstAt 30 = .ok (.iload_n 1, 1) := by decide +kernel
theorem dX10_firstAt_31 : decode cX10_firstAt 31 = .ok (.iaload, 1) := by decide +kernel
theorem dX10_firstAt_32 : decode cX10_firstAt 32 = .ok (.invokevirtual 156, 3) := by decide +kernel
theorem dX10_firstAt_35 : decode cX10_firstAt 35 = .ok (.ireturn, 1) := by decide +kernel
theorem dX10_goes_0 : decode cX10_goes 0 = .ok (.aload_n 0, 1) := by decide +kernel
theorem dX10_goes_1 : decode cX10_goes 1 = .ok (.iload_n 1, 1) := by decide +kernel
theorem dX10_goes_2 : decode cX10_goes 2 = .ok (.iload_n 2, 1) := by decide +kernel
theorem dX10_goes_3 : decode cX10_goes 3 = .ok (.invokevirtual 321, 3) := by decide +kernel
theorem dX10_goes_6 : decode cX10_goes 6 = .ok (.istore_n 3, 1) := by decide +kernel
theorem dX10_goes_7 : decode cX10_goes 7 = .ok (.iload_n 3, 1) := by decide +kernel
theorem dX10_goes_8 : decode cX10_goes 8 = .ok (.ifCond .eq 9, 3) := by decide +kernel
theorem dX10_goes_11 : decode cX10_goes 11 = .ok (.aload_n 0, 1) := by decide +kernel
theorem dX10_goes_12 : decode cX10_goes 12 = .ok (.iload_n 3, 1) := by decide +kernel
theorem dX10_goes_13 : decode cX10_goes 13 = .ok (.invokevirtual 111, 3) := by decide +kernel
theorem dX10_goes_16 : decode cX10_goes 16 = .ok (.ireturn, 1) := by decide +kernel
theorem dX10_goes_17 : decode cX10_goes 17 = .ok (.aload_n 0, 1) := by decide +kernel
theorem dX10_goes_18 : decode cX10_goes 18 = .ok (.getfield 47, 3) := by decide +kernel
theorem dX10_goes_21 : decode cX10_goes 21 = .ok (.aload_n 0, 1) := by decide +kernel
theorem dX10_goes_22 : decode cX10_goes 22 = .ok (.getfield 58, 3) := by decide +kernel
theorem dX10_goes_25 : decode cX10_goes 25 = .ok (.invokevirtual 328, 3) := by decide +kernel
theorem dX10_goes_28 : decode cX10_goes 28 = .ok (.pop2, 1) := by decide +kernel
theorem dX10_goes_29 : decode cX10_goes 29 = .ok (.aload_n 0, 1) := by decide +kernel
theorem dX10_goes_30 : decode cX10_goes 30 = .ok (.aload_n 0, 1) := by decide +kernel
theorem dX10_goes_31 : decode cX10_goes 31 = .ok (.getfield 47, 3) := by decide +kernel
theorem dX10_goes_34 : decode cX10_goes 34 = .ok (.getfield 342, 3) := by decide +kernel
theorem dX10_goes_37 : decode cX10_goes 37 = .ok (.invokevirtual 156, 3) := by decide +kernel
theorem dX10_goes_40 : decode cX10_goes 40 = .ok (.ireturn, 1) := by decide +kernel
theorem dX10_lives_0 : decode cX10_lives 0 = .ok (.aload_n 0, 1) := by decide +kernel
theorem dX10_lives_1 : decode cX10_lives 1 = .ok (.getfield 58, 3) := by decide +kernel
theorem dX10_lives_4 : decode cX10_lives 4 = .ok (.iload_n 1, 1) := by decide +kernel
theorem dX10_lives_5 : decode cX10_lives 5 = .ok (.invokevirtual 205, 3) := by decide +kernel
theorem dX10_lives_8 : decode cX10_lives 8 = .ok (.ifCond .ne 10, 3) := by decide +kernel
theorem dX10_lives_11 : decode cX10_lives 11 = .ok (.aload_n 0, 1) := by decide +kernel
theorem dX10_lives_12 : decode cX10_lives 12 = .ok (.iconst 2, 1) := by decide +kernel
theorem dX10_lives_13 : decode cX10_lives 13 = .ok (.invokevirtual 111, 3) := by decide +kernel
theorem dX10_lives_16 : decode cX10_lives 16 = .ok (.i2l, 1) := by decide +kernel
theorem dX10_lives_17 : decode cX10_lives 17 = .ok (.lreturn, 1) := by decide +kernel
theorem dX10_lives_18 : decode cX10_lives 18 = .ok (.aload_n 0, 1) := by decide +kernel
theorem dX10_lives_19 : decode cX10_lives 19 = .ok (.getfield 47, 3) := by decide +kernel
theorem dX10_lives_22 : decode cX10_lives 22 = .ok (.aload_n 0, 1) := by decide +kernel
theorem dX10_lives_23 : decode cX10_lives 23 = .ok (.getfield 58, 3) := by decide +kernel
theorem dX10_lives_26 : decode cX10_lives 26 = .ok (.aload_n 0, 1) := by decide +kernel
theorem dX10_lives_27 : decode cX10_lives 27 = .ok (.getfield 58, 3) := by decide +kernel
theorem dX10_lives_30 : decode cX10_lives 30 = .ok (.getfield 208, 3) := by decide +kernel
theorem dX10_lives_33 : decode cX10_lives 33 = .ok (.iload_n 1, 1) := by decide +kernel
theorem dX10_lives_34 : decode cX10_lives 34 = .ok (.aaload, 1) := by decide +kernel
theorem dX10_lives_35 : decode cX10_lives 35 = .ok (.invokevirtual 345, 3) := by decide +kernel
theorem dX10_lives_38 : decode cX10_lives 38 = .ok (.aload_n 0, 1) := by decide +kernel
theorem dX10_lives_39 : decode cX10_lives 39 = .ok (.iconst 0, 1) := by decide +kernel
theorem dX10_lives_40 : decode cX10_lives 40 = .ok (.putfield 82, 3) := by decide +kernel
theorem dX10_lives_43 : decode cX10_lives 43 = .ok (.aload_n 0, 1) := by decide +kernel
theorem dX10_lives_44 : decode cX10_lives 44 = .ok (.getfield 47, 3) := by decide +kernel
theorem dX10_lives_47 : decode cX10_lives 47 = .ok (.aload_n 0, 1) := by decide +kernel
theorem dX10_lives_48 : decode cX10_lives 48 = .ok (.getfield 58, 3) := by decide +kernel
theorem dX10_lives_51 : decode cX10_lives 51 = .ok (.invokevirtual 328, 3) := by decide +kernel
theorem dX10_lives_54 : decode cX10_lives 54 = .ok (.lreturn, 1) := by decide +kernel
theorem dX10_orders_0 : decode cX10_orders 0 = .ok (.iload_n 1, 1) := by decide +kernel
theorem dX10_orders_1 : decode cX10_orders 1 = .ok (.ifCond .lt 9, 3) := by decide +kernel
theorem dX10_orders_4 : decode cX10_orders 4 = .ok (.iload_n 1, 1) := by decide +kernel
theorem dX10_orders_5 : decode cX10_orders 5 = .ok (.bipush 12, 2) := by decide +kernel
theorem dX10_orders_7 : decode cX10_orders 7 = .ok (.if_icmp .le 10, 3) := by decide +kernel
theorem dX10_orders_10 : decode cX10_orders 10 = .ok (.aload_n 0, 1) := by decide +kernel
theorem dX10_orders_11 : decode cX10_orders 11 = .ok (.iconst 5, 1) := by decide +kernel
theorem dX10_orders_12 : decode cX10_orders 12 = .ok (.invokevirtual 111, 3) := by decide +kernel
theorem dX10_orders_15 : decode cX10_orders 15 = .ok (.i2l, 1) := by decide +kernel
theorem dX10_orders_16 : decode cX10_orders 16 = .ok (.lreturn, 1) := by decide +kernel
theorem dX10_orders_17 : decode cX10_orders 17 = .ok (.aload_n 0, 1) := by decide +kernel
theorem dX10_orders_18 : decode cX10_orders 18 = .ok (.getfield 47, 3) := by decide +kernel
theorem dX10_orders_21 : decode cX10_orders 21 = .ok (.iload_n 1, 1) := by decide +kernel
theorem dX10_orders_22 : decode cX10_orders 22 = .ok (.invokevirtual 349, 3) := by decide +kernel
theorem dX10_orders_25 : decode cX10_orders 25 = .ok (.aload_n 0, 1) := by decide +kernel
theorem dX10_orders_26 : decode cX10_orders 26 = .ok (.iconst 0, 1) := by decide +kernel
theorem dX10_orders_27 : decode cX10_orders 27 = .ok (.putfield 82, 3) := by decide +kernel
theorem dX10_orders_30 : decode cX10_orders 30 = .ok (.aload_n 0, 1) := by decide +kernel
theorem dX10_orders_31 : decode cX10_orders 31 = .ok (.getfield 47, 3) := by decide +kernel
theorem dX10_orders_34 : decode cX10_orders 34 = .ok (.aload_n 0, 1) := by decide +kernel
theorem dX10_orders_35 : decode cX10_orders 35 = .ok (.getfield 58, 3) := by decide +kernel
theorem dX10_orders_38 : decode cX10_orders 38 = .ok (.invokevirtual 328, 3) := by decide +kernel
theorem dX10_orders_41 : decode cX10_orders 41 = .ok (.lreturn, 1) := by decide +kernel
theorem dX10_reach_0 : decode cX10_reach 0 = .ok (.aload_n 0, 1) := by decide +kernel
theorem dX10_reach_1 : decode cX10_reach 1 = .ok (.getfield 58, 3) := by decide +kernel
theorem dX10_reach_4 : decode cX10_reach 4 = .ok (.iload_n 1, 1) := by decide +kernel
theorem dX10_reach_5 : decode cX10_reach 5 = .ok (.i2l, 1) := by decide +kernel
theorem dX10_reach_6 : decode cX10_reach 6 = .ok (.invokevirtual 177, 3) := by decide +kernel
theorem dX10_reach_9 : decode cX10_reach 9 = .ok (.ifCond .ne 9, 3) := by decide +kernel
theorem dX10_reach_12 : decode cX10_reach 12 = .ok (.aload_n 0, 1) := by decide +kernel
theorem dX10_reach_13 : decode cX10_reach 13 = .ok (.iconst 2, 1) := by decide +kernel
theorem dX10_reach_14 : decode cX10_reach 14 = .ok (.invokevirtual 111, 3) := by decide +kernel
theorem dX10_reach_17 : decode cX10_reach 17 = .ok (.ireturn, 1) := by decide +kernel
theorem dX10_reach_18 : decode cX10_reach 18 = .ok (.aload_n 0, 1) := by decide +kernel
theorem dX10_reach_19 : decode cX10_reach 19 = .ok (.aload_n 0, 1) := by decide +kernel
theorem dX10_reach_20 : decode cX10_reach 20 = .ok (.getfield 58, 3) := by decide +kernel
theorem dX10_reach_23 : decode cX10_reach 23 = .ok (.iload_n 1, 1) := by decide +kernel
theorem dX10_reach_24 : decode cX10_reach 24 = .ok (.invokevirtual 352, 3) := by decide +kernel
theorem dX10_reach_27 : decode cX10_reach 27 = .ok (.invokestatic 355, 3) := by decide +kernel
theorem dX10_reach_30 : decode cX10_reach 30 = .ok (.iconst 1, 1) := by decide +kernel
theorem dX10_reach_31 : decode cX10_reach 31 = .ok (.iadd, 1) := by decide +kernel
theorem dX10_reach_32 : decode cX10_reach 32 = .ok (.invokevirtual 156, 3) := by decide +kernel
theorem dX10_reach_35 : decode cX10_reach 35 = .ok (.ireturn, 1) := by decide +kernel
theorem dX10_sayable_0 : decode cX10_sayable 0 = .ok (.iload_n 1, 1) := by decide +kernel
theorem dX10_sayable_1 : decode cX10_sayable 1 = .ok (.iconst 1, 1) := by decide +kernel
theorem dX10_sayable_2 : decode cX10_sayable 2 = .ok (.if_icmp .lt 9, 3) := by decide +kernel
theorem dX10_sayable_5 : decode cX10_sayable 5 = .ok (.iload_n 1, 1) := by decide +kernel
theorem dX10_sayable_6 : decode cX10_sayable 6 = .ok (.bipush 12, 2) := by decide +kernel
theorem dX10_sayable_8 : decode cX10_sayable 8 = .ok (.if_icmp .le 9, 3) := by decide +kernel
theorem dX10_sayable_11 : decode cX10_sayable 11 = .ok (.aload_n 0, 1) := by decide +kernel
theorem dX10_sayable_12 : decode cX10_sayable 12 = .ok (.iconst 5, 1) := by decide +kernel
theorem dX10_sayable_13 : decode cX10_sayable 13 = .ok (.invokevirtual 92, 3) := by decide +kernel
theorem dX10_sayable_16 : decode cX10_sayable 16 = .ok (.ireturn, 1) := by decide +kernel
theorem dX10_sayable_17 : decode cX10_sayable 17 = .ok (.aload_n 0, 1) := by decide +kernel
theorem dX10_sayable_18 : decode cX10_sayable 18 = .ok (.getfield 47, 3) := by decide +kernel
theorem dX10_sayable_21 : decode cX10_sayable 21 = .ok (.iload_n 1, 1) := by decide +kernel
theorem dX10_sayable_22 : decode cX10_sayable 22 = .ok (.invokevirtual 349, 3) := by decide +kernel
theorem dX10_sayable_25 : decode cX10_sayable 25 = .ok (.aload_n 0, 1) := by decide +kernel
theorem dX10_sayable_26 : decode cX10_sayable 26 = .ok (.getfield 47, 3) := by decide +kernel
theorem dX10_sayable_29 : decode cX10_sayable 29 = .ok (.aload_n 0, 1) := by decide +kernel
theorem dX10_sayable_30 : decode cX10_sayable 30 = .ok (.getfield 58, 3) := by decide +kernel
theorem dX10_sayable_33 : decode cX10_sayable 33 = .ok (.invokevirtual 328, 3) := by decide +kernel
theorem dX10_sayable_36 : decode cX10_sayable 36 = .ok (.lstore_n 2, 1) := by decide +kernel
theorem dX10_sayable_37 : decode cX10_sayable 37 = .ok (.lload_n 2, 1) := by decide +kernel
theorem dX10_sayable_38 : decode cX10_sayable 38 = .ok (.lconst 0, 1) := by decide +kernel
theorem dX10_sayable_39 : decode cX10_sayable 39 = .ok (.lcmp, 1) := by decide +kernel
theorem dX10_sayable_40 : decode cX10_sayable 40 = .ok (.ifCond .ne 10, 3) := by decide +kernel
theorem dX10_sayable_43 : decode cX10_sayable 43 = .ok (.aload_n 0, 1) := by decide +kernel
theorem dX10_sayable_44 : decode cX10_sayable 44 = .ok (.bipush 8, 2) := by decide +kernel
theorem dX10_sayable_46 : decode cX10_sayable 46 = .ok (.invokevirtual 92, 3) := by decide +kernel
theorem dX10_sayable_49 : decode cX10_sayable 49 = .ok (.ireturn, 1) := by decide +kernel
theorem dX10_sayable_50 : decode cX10_sayable 50 = .ok (.aload_n 0, 1) := by decide +kernel
theorem dX10_sayable_51 : decode cX10_sayable 51 = .ok (.aload_n 0, 1) := by decide +kernel
theorem dX10_sayable_52 : decode cX10_sayable 52 = .ok (.getfield 47, 3) := by decide +kernel
theorem dX10_sayable_55 : decode cX10_sayable 55 = .ok (.aload_n 0, 1) := by decide +kernel
theorem dX10_sayable_56 : decode cX10_sayable 56 = .ok (.getfield 58, 3) := by decide +kernel
theorem dX10_sayable_59 : decode cX10_sayable 59 = .ok (.invokevirtual 360, 3) := by decide +kernel
theorem dX10_sayable_62 : decode cX10_sayable 62 = .ok (.lload_n 2, 1) := by decide +kernel
theorem dX10_sayable_63 : decode cX10_sayable 63 = .ok (.invokevirtual 363, 3) := by decide +kernel
theorem dX10_sayable_66 : decode cX10_sayable 66 = .ok (.aload_n 0, 1) := by decide +kernel
theorem dX10_sayable_67 : decode cX10_sayable 67 = .ok (.invokevirtual 99, 3) := by decide +kernel
theorem dX10_sayable_70 : decode cX10_sayable 70 = .ok (.ireturn, 1) := by decide +kernel
theorem dX10_root_0 : decode cX10_root 0 = .ok (.iconst (-1), 1) := by decide +kernel
theorem dX10_root_1 : decode cX10_root 1 = .ok (.istore_n 1, 1) := by decide +kernel
theorem dX10_root_2 : decode cX10_root 2 = .ok (.iconst (-1), 1) := by decide +kernel
theorem dX10_root_3 : decode cX10_root 3 = .ok (.istore_n 2, 1) := by decide +kernel
theorem dX10_root_4 : decode cX10_root 4 = .ok (.iconst 0, 1) := by decide +kernel
theorem dX10_root_5 : decode cX10_root 5 = .ok (.istore_n 3, 1) := by decide +kernel
theorem dX10_root_6 : decode cX10_root 6 = .ok (.iload_n 3, 1) := by decide +kernel
theorem dX10_root_7 : decode cX10_root 7 = .ok (.aload_n 0, 1) := by decide +kernel
theorem dX10_root_8 : decode cX10_root 8 = .ok (.getfield 58, 3) := by decide +kernel
theorem dX10_root_11 : decode cX10_root 11 = .ok (.getfield 153, 3) := by decide +kernel
theorem dX10_root_14 : decode cX10_root 14 = .ok (.if_icmp .ge 30, 3) := by decide +kernel
theorem dX10_root_17 : decode cX10_root 17 = .ok (.aload_n 0, 1) := by decide +kernel
theorem dX10_root_18 : decode cX10_root 18 = .ok (.getfield 58, 3) := by decide +kernel
theorem dX10_root_21 : decode cX10_root 21 = .ok (.iload_n 3, 1) := by decide +kernel
theorem dX10_root_22 : decode cX10_root 22 = .ok (.invokevirtual 367, 3) := by decide +kernel
theorem dX10_root_25 : decode cX10_root 25 = .ok (.istore 4, 2) := by decide +kernel
theorem dX10_root_27 : decode cX10_root 27 = .ok (.iload 4, 2) := by decide +kernel
theorem dX10_root_29 : decode cX10_root 29 = .ok (.iload_n 2, 1) := by decide +kernel
theorem dX10_root_30 : decode cX10_root 30 = .ok (.if_icmp .le 8, 3) := by decide +kernel
theorem dX10_root_33 : decode cX10_root 33 = .ok (.iload 4, 2) := by decide +kernel
theorem dX10_root_35 : decode cX10_root 35 = .ok (.istore_n 2, 1) := by decide +kernel
theorem dX10_root_36 : decode cX10_root 36 = .ok (.iload_n 3, 1) := by decide +kernel
theorem dX10_root_37 : decode cX10_root 37 = .ok (.istore_n 1, 1) := by decide +kernel
theorem dX10_root_38 : decode cX10_root 38 = .ok (.iinc 3 1, 3) := by decide +kernel
theorem dX10_root_41 : decode cX10_root 41 = .ok (.goto (-35), 3) := by decide +kernel
theorem dX10_root_44 : decode cX10_root 44 = .ok (.aload_n 0, 1) := by decide +kernel
theorem dX10_root_45 : decode cX10_root 45 = .ok (.iload_n 1, 1) := by decide +kernel
theorem dX10_root_46 : decode cX10_root 46 = .ok (.invokevirtual 199, 3) := by decide +kernel
theorem dX10_root_49 : decode cX10_root 49 = .ok (.ireturn, 1) := by decide +kernel
theorem dX10_plans_0 : decode cX10_plans 0 = .ok (.iconst 0, 1) := by decide +kernel
theorem dX10_plans_1 : decode cX10_plans 1 = .ok (.istore_n 1, 1) := by decide +kernel
theorem dX10_plans_2 : decode cX10_plans 2 = .ok (.iload_n 1, 1) := by decide +kernel
theorem dX10_plans_3 : decode cX10_plans 3 = .ok (.aload_n 0, 1) := by decide +kernel
theorem dX10_plans_4 : decode cX10_plans 4 = .ok (.getfield 58, 3) := by decide +kernel
theorem dX10_plans_7 : decode cX10_plans 7 = .ok (.getfield 171, 3) := by decide +kernel
theorem dX10_plans_10 : decode cX10_plans 10 = .ok (.if_icmp .ge 39, 3) := by decide +kernel
theorem dX10_plans_13 : decode cX10_plans 13 = .ok (.aload_n 0, 1) := by decide +kernel
theorem dX10_plans_14 : decode cX10_plans 14 = .ok (.aload_n 0, 1) := by decide +kernel
theorem dX10_plans_15 : decode cX10_plans 15 = .ok (.getfield 58, 3) := by decide +kernel
theorem dX10_plans_18 : decode cX10_plans 18 = .ok (.getfield 208, 3) := by decide +kernel
theorem dX10_plans_21 : decode cX10_plans 21 = .ok (.iload_n 1, 1) := by decide +kernel
theorem dX10_plans_22 : decode cX10_plans 22 = .ok (.aaload, 1) := by decide +kernel
theorem dX10_plans_23 : decode cX10_plans 23 = .ok (.aload_n 0, 1) := by decide +kernel
theorem dX10_plans_24 : decode cX10_plans 24 = .ok (.getfield 11, 3) := by decide +kernel
theorem dX10_plans_27 : decode cX10_plans 27 = .ok (.iload_n 1, 1) := by decide +kernel
theorem dX10_plans_28 : decode cX10_plans 28 = .ok (.aaload, 1) := by decide +kernel
theorem dX10_plans_29 : decode cX10_plans 29 = .ok (.invokevirtual 370, 3) := by decide +kernel
theorem dX10_plans_32 : decode cX10_plans 32 = .ok (.istore_n 2, 1) := by decide +kernel
theorem dX10_plans_33 : decode cX10_plans 33 = .ok (.iload_n 2, 1) := by decide +kernel
theorem dX10_plans_34 : decode cX10_plans 34 = .ok (.ifCond .eq 9, 3) := by decide +kernel
theorem dX10_plans_37 : decode cX10_plans 37 = .ok (.aload_n 0, 1) := by decide +kernel
theorem dX10_plans_38 : decode cX10_plans 38 = .ok (.iload_n 2, 1) := by decide +kernel
theorem dX10_plans_39 : decode cX10_plans 39 = .ok (.invokevirtual 111, 3) := by decide +kernel
theorem dX10_plans_42 : decode cX10_plans 42 = .ok (.ireturn, 1) := by decide +kernel
theorem dX10_plans_43 : decode cX10_plans 43 = .ok (.iinc 1 1, 3) := by decide +kernel
theorem dX10_plans_46 : decode cX10_plans 46 = .ok (.goto (-44), 3) := by decide +kernel
theorem dX10_plans_49 : decode cX10_plans 49 = .ok (.aload_n 0, 1) := by decide +kernel
theorem dX10_plans_50 : decode cX10_plans 50 = .ok (.getfield 54, 3) := by decide +kernel
theorem dX10_plans_53 : decode cX10_plans 53 = .ok (.aload_n 0, 1) := by decide +kernel
theorem dX10_plans_54 : decode cX10_plans 54 = .ok (.getfield 58, 3) := by decide +kernel
theorem dX10_plans_57 : decode cX10_plans 57 = .ok (.aload_n 0, 1) := by decide +kernel
theorem dX10_plans_58 : decode cX10_plans 58 = .ok (.getfield 11, 3) := by decide +kernel
theorem dX10_plans_61 : decode cX10_plans 61 = .ok (.invokevirtual 374, 3) := by decide +kernel
theorem dX10_plans_64 : decode cX10_plans 64 = .ok (.aload_n 0, 1) := by decide +kernel
theorem dX10_plans_65 : decode cX10_plans 65 = .ok (.aload_n 0, 1) := by decide +kernel
theorem dX10_plans_66 : decode cX10_plans 66 = .ok (.getfield 54, 3) := by decide +kernel
theorem dX10_plans_69 : decode cX10_plans 69 = .ok (.getfield 378, 3) := by decide +kernel
theorem dX10_plans_72 : decode cX10_plans 72 = .ok (.invokevirtual 156, 3) := by decide +kernel
theorem dX10_plans_75 : decode cX10_plans 75 = .ok (.ireturn, 1) := by decide +kernel
theorem dX10_waited_0 : decode cX10_waited 0 = .ok (.aload_n 0, 1) := by decide +kernel
theorem dX10_waited_1 : decode cX10_waited 1 = .ok (.getfield 58, 3) := by decide +kernel
theorem dX10_waited_4 : decode cX10_waited 4 = .ok (.iload_n 1, 1) := by decide +kernel
theorem dX10_waited_5 : decode cX10_waited 5 = .ok (.invokevirtual 205, 3) := by decide +kernel
theorem dX10_waited_8 : decode cX10_waited 8 = .ok (.ifCond .ne 9, 3) := by decide +kernel
theorem dX10_waited_11 : decode cX10_waited 11 = .ok (.aload_n 0, 1) := by decide +kernel
theorem dX10_waited_12 : decode cX10_waited 12 = .ok (.iconst 2, 1) := by decide +kernel
theorem dX10_waited_13 : decode cX10_waited 13 = .ok (.invokevirtual 111, 3) := by decide +kernel
theorem dX10_waited_16 : decode cX10_waited 16 = .ok (.ireturn, 1) := by decide +kernel
theorem dX10_waited_17 : decode cX10_waited 17 = .ok (.aload_n 0, 1) := by decide +kernel
theorem dX10_waited_18 : decode cX10_waited 18 = .ok (.getfield 54, 3) := by decide +kernel
theorem dX10_waited_21 : decode cX10_waited 21 = .ok (.iload_n 1, 1) := by decide +kernel
theorem dX10_waited_22 : decode cX10_waited 22 = .ok (.invokevirtual 381, 3) := by decide +kernel
theorem dX10_waited_25 : decode cX10_waited 25 = .ok (.ifCond .eq 19, 3) := by decide +kernel
theorem dX10_waited_28 : decode cX10_waited 28 = .ok (.aload_n 0, 1) := by decide +kernel
theorem dX10_waited_29 : decode cX10_waited 29 = .ok (.aload_n 0, 1) := by decide +kernel
theorem dX10_waited_30 : decode cX10_waited 30 = .ok (.getfield 54, 3) := by decide +kernel
theorem dX10_waited_33 : decode cX10_waited 33 = .ok (.getfield 382, 3) := by decide +kernel
theorem dX10_waited_36 : decode cX10_waited 36 = .ok (.iload_n 1, 1) := by decide +kernel
theorem dX10_waited_37 : decode cX10_waited 37 = .ok (.iaload, 1) := by decide +kernel
theorem dX10_waited_38 : decode cX10_waited 38 = .ok (.invokevirtual 156, 3) := by decide +kernel
theorem dX10_waited_41 : decode cX10_waited 41 = .ok (.goto 9, 3) := by decide +kernel
theorem dX10_waited_44 : decode cX10_waited 44 = .ok (.aload_n 0, 1) := by decide +kernel
theorem dX10_waited_45 : decode cX10_waited 45 = .ok (.bipush 8, 2) := by decide +kernel
theorem dX10_waited_47 : decode cX10_waited 47 = .ok (.invokevirtual 111, 3) := by decide +kernel
theorem dX10_waited_50 : decode cX10_waited 50 = .ok (.ireturn, 1) := by decide +kernel
theorem dX10_began_0 : decode cX10_began 0 = .ok (.aload_n 0, 1) := by decide +kernel
theorem dX10_began_1 : decode cX10_began 1 = .ok (.getfield 58, 3) := by decide +kernel
theorem dX10_began_4 : decode cX10_began 4 = .ok (.iload_n 1, 1) := by decide +kernel
theorem dX10_began_5 : decode cX10_began 5 = .ok (.invokevirtual 205, 3) := by decide +kernel
theorem dX10_began_8 : decode cX10_began 8 = .ok (.ifCond .ne 9, 3) := by decide +kernel
theorem dX10_began_11 : decode cX10_began 11 = .ok (.aload_n 0, 1) := by decide +kernel
theorem dX10_began_12 : decode cX10_began 12 = .ok (.iconst 2, 1) := by decide +kernel
theorem dX10_began_13 : decode cX10_began 13 = .ok (.invokevirtual 111, 3) := by decide +kernel
theorem dX10_began_16 : decode cX10_began 16 = .ok (.ireturn, 1) := by decide +kernel
theorem dX10_began_17 : decode cX10_began 17 = .ok (.aload_n 0, 1) := by decide +kernel
theorem dX10_began_18 : decode cX10_began 18 = .ok (.getfield 54, 3) := by decide +kernel
theorem dX10_began_21 : decode cX10_began 21 = .ok (.iload_n 1, 1) := by decide +kernel
theorem dX10_began_22 : decode cX10_began 22 = .ok (.invokevirtual 381, 3) := by decide +kernel
theorem dX10_began_25 : decode cX10_began 25 = .ok (.ifCond .eq 20, 3) := by decide +kernel
theorem dX10_began_28 : decode cX10_began 28 = .ok (.iload_n 2, 1) := by decide +kernel
theorem dX10_began_29 : decode cX10_began 29 = .ok (.ifCond .lt 16, 3) := by decide +kernel
theorem dX10_began_32 : decode cX10_began 32 = .ok (.iload_n 2, 1) := by decide +kernel
theorem dX10_began_33 : decode cX10_began 33 = .ok (.aload_n 0, 1) := by decide +kernel
theorem dX10_began_34 : decode cX10_began 34 = .ok (.getfield 54, 3) := by decide +kernel
theorem dX10_began_37 : decode cX10_began 37 = .ok (.getfield 385, 3) := by decide +kernel
theorem dX10_began_40 : decode cX10_began 40 = .ok (.iload_n 1, 1) := by decide +kernel
theorem dX10_began_41 : decode cX10_began 41 = .ok (.iaload, 1) := by decide +kernel
theorem dX10_began_42 : decode cX10_began 42 = .ok (.if_icmp .lt 10, 3) := by decide +kernel
theorem dX10_began_45 : decode cX10_began 45 = .ok (.aload_n 0, 1) := by decide +kernel
theorem dX10_began_46 : decode cX10_began 46 = .ok (.bipush 8, 2) := by decide +kernel
theorem dX10_began_48 : decode cX10_began 48 = .ok (.invokevirtual 111, 3) := by decide +kernel
theorem dX10_began_51 : decode cX10_began 51 = .ok (.ireturn, 1) := by decide +kernel
theorem dX10_began_52 : decode cX10_began 52 = .ok (.aload_n 0, 1) := by decide +kernel
theorem dX10_began_53 : decode cX10_began 53 = .ok (.aload_n 0, 1) := by decide +kernel
theorem dX10_began_54 : decode cX10_began 54 = .ok (.getfield 54, 3) := by decide +kernel
theorem dX10_began_57 : decode cX10_began 57 = .ok (.getfield 388, 3) := by decide +kernel
theorem dX10_began_60 : decode cX10_began 60 = .ok (.iload_n 1, 1) := by decide +kernel
theorem dX10_began_61 : decode cX10_began 61 = .ok (.aaload, 1) := by decide +kernel
theorem dX10_began_62 : decode cX10_began 62 = .ok (.iload_n 2, 1) := by decide +kernel
theorem dX10_began_63 : decode cX10_began 63 = .ok (.iaload, 1) := by decide +kernel
theorem dX10_began_64 : decode cX10_began 64 = .ok (.invokevirtual 156, 3) := by decide +kernel
theorem dX10_began_67 : decode cX10_began 67 = .ok (.ireturn, 1) := by decide +kernel
theorem dX10_live_0 : decode cX10_live 0 = .ok (.iload_n 1, 1) := by decide +kernel
theorem dX10_live_1 : decode cX10_live 1 = .ok (.ifCond .lt 10, 3) := by decide +kernel
theorem dX10_live_4 : decode cX10_live 4 = .ok (.iload_n 1, 1) := by decide +kernel
theorem dX10_live_5 : decode cX10_live 5 = .ok (.sipush 9999, 3) := by decide +kernel
theorem dX10_live_8 : decode cX10_live 8 = .ok (.if_icmp .le 9, 3) := by decide +kernel
theorem dX10_live_11 : decode cX10_live 11 = .ok (.aload_n 0, 1) := by decide +kernel
theorem dX10_live_12 : decode cX10_live 12 = .ok (.iconst 5, 1) := by decide +kernel
theorem dX10_live_13 : decode cX10_live 13 = .ok (.invokevirtual 111, 3) := by decide +kernel
theorem dX10_live_16 : decode cX10_live 16 = .ok (.ireturn, 1) := by decide +kernel
theorem dX10_live_17 : decode cX10_live 17 = .ok (.aload_n 0, 1) := by decide +kernel
theorem dX10_live_18 : decode cX10_live 18 = .ok (.getfield 58, 3) := by decide +kernel
theorem dX10_live_21 : decode cX10_live 21 = .ok (.getfield 162, 3) := by decide +kernel
theorem dX10_live_24 : decode cX10_live 24 = .ok (.getfield 391, 3) := by decide +kernel
theorem dX10_live_27 : decode cX10_live 27 = .ok (.ifCond .ne 10, 3) := by decide +kernel
theorem dX10_live_30 : decode cX10_live 30 = .ok (.aload_n 0, 1) := by decide +kernel
theorem dX10_live_31 : decode cX10_live 31 = .ok (.bipush 8, 2) := by decide +kernel
theorem dX10_live_33 : decode cX10_live 33 = .ok (.invokevirtual 111, 3) := by decide +kernel
theorem dX10_live_36 : decode cX10_live 36 = .ok (.ireturn, 1) := by decide +kernel
theorem dX10_live_37 : decode cX10_live 37 = .ok (.aload_n 0, 1) := by decide +kernel
theorem dX10_live_38 : decode cX10_live 38 = .ok (.getfield 37, 3) := by decide +kernel
theorem dX10_live_41 : decode cX10_live 41 = .ok (.aload_n 0, 1) := by decide +kernel
theorem dX10_live_42 : decode cX10_live 42 = .ok (.getfield 58, 3) := by decide +kernel
theorem dX10_live_45 : decode cX10_live 45 = .ok (.iload_n 1, 1) := by decide +kernel
theorem dX10_live_46 : decode cX10_live 46 = .ok (.invokevirtual 392, 3) := by decide +kernel
theorem dX10_live_49 : decode cX10_live 49 = .ok (.aload_n 0, 1) := by decide +kernel
theorem dX10_live_50 : decode cX10_live 50 = .ok (.aload_n 0, 1) := by decide +kernel
theorem dX10_live_51 : decode cX10_live 51 = .ok (.getfield 37, 3) := by decide +kernel
theorem dX10_live_54 : decode cX10_live 54 = .ok (.getfield 396, 3) := by decide +kernel
theorem dX10_live_57 : decode cX10_live 57 = .ok (.invokevirtual 156, 3) := by decide +kernel
theorem dX10_live_60 : decode cX10_live 60 = .ok (.ireturn, 1) := by decide +kernel
theorem dX10_lived_0 : decode cX10_lived 0 = .ok (.iload_n 1, 1) := by decide +kernel
theorem dX10_lived_1 : decode cX10_lived 1 = .ok (.ifCond .lt 8, 3) := by decide +kernel
theorem dX10_lived_4 : decode cX10_lived 4 = .ok (.iload_n 1, 1) := by decide +kernel
theorem dX10_lived_5 : decode cX10_lived 5 = .ok (.iconst 3, 1) := by decide +kernel
theorem dX10_lived_6 : decode cX10_lived 6 = .ok (.if_icmp .le 9, 3) := by decide +kernel
theorem dX10_lived_9 : decode cX10_lived 9 = .ok (.aload_n 0, 1) := by decide +kernel
theorem dX10_lived_10 : decode cX10_lived 10 = .ok (.iconst 5, 1) := by decide +kernel
theorem dX10_lived_11 : decode cX10_lived 11 = .ok (.invokevirtual 111, 3) := by decide +kernel
theorem dX10_lived_14 : decode cX10_lived 14 = .ok (.ireturn, 1) := by decide +kernel
theorem dX10_lived_15 : decode cX10_lived 15 = .ok (.aload_n 0, 1) := by decide +kernel
theorem dX10_lived_16 : decode cX10_lived 16 = .ok (.getfield 37, 3) := by decide +kernel
theorem dX10_lived_19 : decode cX10_lived 19 = .ok (.getfield 397, 3) := by decide +kernel
theorem dX10_lived_22 : decode cX10_lived 22 = .ok (.ifCond .ne 10, 3) := by decide +kernel
theorem dX10_lived_25 : decode cX10_lived 25 = .ok (.aload_n 0, 1) := by decide +kernel
theorem dX10_lived_26 : decode cX10_lived 26 = .ok (.bipush 8, 2) := by decide +kernel
theorem dX10_lived_28 : decode cX10_lived 28 = .ok (.invokevirtual 111, 3) := by decide +kernel
theorem dX10_lived_31 : decode cX10_lived 31 = .ok (.ireturn, 1) := by decide +kernel
theorem dX10_lived_32 : decode cX10_lived 32 = .ok (.iload_n 1, 1) := by decide +kernel
theorem dX10_lived_33 : decode cX10_lived 33 = .ok (.tableswitch 63 0 2 #[27, 39, 51], 27) := by decide +kernel
theorem dX10_lived_60 : decode cX10_lived 60 = .ok (.aload_n 0, 1) := by decide +kernel
theorem dX10_lived_61 : decode cX10_lived 61 = .ok (.aload_n 0, 1) := by decide +kernel
theorem dX10_lived_62 : decode cX10_lived 62 = .ok (.getfield 37, 3) := by decide +kernel
theorem dX10_lived_65 : decode cX10_lived 65 = .ok (.getfield 398, 3) := by decide +kernel
theorem dX10_lived_68 : decode cX10_lived 68 = .ok (.invokevirtual 156, 3) := by decide +kernel
theorem dX10_lived_71 : decode cX10_lived 71 = .ok (.ireturn, 1) := by decide +kernel
theorem dX10_lived_72 : decode cX10_lived 72 = .ok (.aload_n 0, 1) := by decide +kernel
theorem dX10_lived_73 : decode cX10_lived 73 = .ok (.aload_n 0, 1) := by decide +kernel
theorem dX10_lived_74 : decode cX10_lived 74 = .ok (.getfield 37, 3) := by decide +kernel
theorem dX10_lived_77 : decode cX10_lived 77 = .ok (.getfield 401, 3) := by decide +kernel
theorem dX10_lived_80 : decode cX10_lived 80 = .ok (.invokevirtual 156, 3) := by decide +kernel
theorem dX10_lived_83 : decode cX10_lived 83 = .ok (.ireturn, 1) := by decide +kernel
theorem dX10_lived_84 : decode cX10_lived 84 = .ok (.aload_n 0, 1) := by decide +kernel
theorem dX10_lived_85 : decode cX10_lived 85 = .ok (.aload_n 0, 1) := by decide +kernel
theorem dX10_lived_86 : decode cX10_lived 86 = .ok (.getfield 37, 3) := by decide +kernel
theorem dX10_lived_89 : decode cX10_lived 89 = .ok (.getfield 403, 3) := by decide +kernel
theorem dX10_lived_92 : decode cX10_lived 92 = .ok (.invokevirtual 156, 3) := by decide +kernel
theorem dX10_lived_95 : decode cX10_lived 95 = .ok (.ireturn, 1) := by decide +kernel
theorem dX10_lived_96 : decode cX10_lived 96 = .ok (.aload_n 0, 1) := by decide +kernel
theorem dX10_lived_97 : decode cX10_lived 97 = .ok (.aload_n 0, 1) := by decide +kernel
theorem dX10_lived_98 : decode cX10_lived 98 = .ok (.getfield 37, 3) := by decide +kernel
theorem dX10_lived_101 : decode cX10_lived 101 = .ok (.getfield 406, 3) := by decide +kernel
theorem dX10_lived_104 : decode cX10_lived 104 = .ok (.ifCond .eq 7, 3) := by decide +kernel
theorem dX10_lived_107 : decode cX10_lived 107 = .ok (.iconst 1, 1) := by decide +kernel
theorem dX10_lived_108 : decode cX10_lived 108 = .ok (.goto 4, 3) := by decide +kernel
theorem dX10_lived_111 : decode cX10_lived 111 = .ok (.iconst 0, 1) := by decide +kernel
theorem dX10_lived_112 : decode cX10_lived 112 = .ok (.invokevirtual 156, 3) := by decide +kernel
theorem dX10_lived_115 : decode cX10_lived 115 = .ok (.ireturn, 1) := by decide +kernel
theorem dX10_odds_0 : decode cX10_odds 0 = .ok (.aload_n 0, 1) := by decide +kernel
theorem dX10_odds_1 : decode cX10_odds 1 = .ok (.getfield 58, 3) := by decide +kernel
theorem dX10_odds_4 : decode cX10_odds 4 = .ok (.iload_n 1, 1) := by decide +kernel
theorem dX10_odds_5 : decode cX10_odds 5 = .ok (.invokevirtual 205, 3) := by decide +kernel
theorem dX10_odds_8 : decode cX10_odds 8 = .ok (.ifCond .ne 9, 3) := by decide +kernel
theorem dX10_odds_11 : decode cX10_odds 11 = .ok (.aload_n 0, 1) := by decide +kernel
theorem dX10_odds_12 : decode cX10_odds 12 = .ok (.iconst 2, 1) := by decide +kernel
theorem dX10_odds_13 : decode cX10_odds 13 = .ok (.invokevirtual 92, 3) := by decide +kernel
theorem dX10_odds_16 : decode cX10_odds 16 = .ok (.ireturn, 1) := by decide +kernel
theorem dX10_odds_17 : decode cX10_odds 17 = .ok (.iload_n 2, 1) := by decide +kernel
theorem dX10_odds_18 : decode cX10_odds 18 = .ok (.ifCond .lt 32, 3) := by decide +kernel
theorem dX10_odds_21 : decode cX10_odds 21 = .ok (.iload_n 2, 1) := by decide +kernel
theorem dX10_odds_22 : decode cX10_odds 22 = .ok (.sipush 9999, 3) := by decide +kernel
theorem dX10_odds_25 : decode cX10_odds 25 = .ok (.if_icmp .gt 25, 3) := by decide +kernel
theorem dX10_odds_28 : decode cX10_odds 28 = .ok (.iload_n 3, 1) := by decide +kernel
theorem dX10_odds_29 : decode cX10_odds 29 = .ok (.iconst 1, 1) := by decide +kernel
theorem dX10_odds_30 : decode cX10_odds 30 = .ok (.if_icmp .lt 20, 3) := by decide +kernel
theorem dX10_odds_33 : decode cX10_odds 33 = .ok (.iload_n 3, 1) := by decide +kernel
theorem dX10_odds_34 : decode cX10_odds 34 = .ok (.bipush 20, 2) := by decide +kernel
theorem dX10_odds_36 : decode cX10_odds 36 = .ok (.if_icmp .gt 14, 3) := by decide +kernel
theorem dX10_odds_39 : decode cX10_odds 39 = .ok (.iload_n 2, 1) := by decide +kernel
theorem dX10_odds_40 : decode cX10_odds 40 = .ok (.iload_n 3, 1) := by decide +kernel
theorem dX10_odds_41 : decode cX10_odds 41 = .ok (.iadd, 1) := by decide +kernel
theorem dX10_odds_42 : decode cX10_odds 42 = .ok (.iconst 1, 1) := by decide +kernel
theorem dX10_odds_43 : decode cX10_odds 43 = .ok (.isub, 1) := by decide +kernel
theorem dX10_odds_44 : decode cX10_odds 44 = .ok (.sipush 9999, 3) := by decide +kernel
theorem dX10_odds_47 : decode cX10_odds 47 = .ok (.if_icmp .le 9, 3) := by decide +kernel
theorem dX10_odds_50 : decode cX10_odds 50 = .ok (.aload_n 0, 1) := by decide +kernel
theorem dX10_odds_51 : decode cX10_odds 51 = .ok (.iconst 5, 1) := by decide +kernel
theorem dX10_odds_52 : decode cX10_odds 52 = .ok (.invokevirtual 92, 3) := by decide +kernel
theorem dX10_odds_55 : decode cX10_odds 55 = .ok (.ireturn, 1) := by decide +kernel
theorem dX10_odds_56 : decode cX10_odds 56 = .ok (.aload_n 0, 1) := by decide +kernel
theorem dX10_odds_57 : decode cX10_odds 57 = .ok (.getfield 58, 3) := by decide +kernel
theorem dX10_odds_60 : decode cX10_odds 60 = .ok (.getfield 162, 3) := by decide +kernel
theorem dX10_odds_63 : decode cX10_odds 63 = .ok (.getfield 391, 3) := by decide +kernel
theorem dX10_odds_66 : decode cX10_odds 66 = .ok (.ifCond .ne 10, 3) := by decide +kernel
theorem dX10_odds_69 : decode cX10_odds 69 = .ok (.aload_n 0, 1) := by decide +kernel
theorem dX10_odds_70 : decode cX10_odds 70 = .ok (.bipush 8, 2) := by decide +kernel
theorem dX10_odds_72 : decode cX10_odds 72 = .ok (.invokevirtual 92, 3) := by decide +kernel
theorem dX10_odds_75 : decode cX10_odds 75 = .ok (.ireturn, 1) := by decide +kernel
theorem dX10_odds_76 : decode cX10_odds 76 = .ok (.iconst 0, 1) := by decide +kernel
theorem dX10_odds_77 : decode cX10_odds 77 = .ok (.istore 4, 2) := by decide +kernel
theorem dX10_odds_79 : decode cX10_odds 79 = .ok (.iconst 0, 1) := by decide +kernel
theorem dX10_odds_80 : decode cX10_odds 80 = .ok (.istore 5, 2) := by decide +kernel
theorem dX10_odds_82 : decode cX10_odds 82 = .ok (.iload 5, 2) := by decide +kernel
theorem dX10_odds_84 : decode cX10_odds 84 = .ok (.iload_n 3, 1) := by decide +kernel
theorem dX10_odds_85 : decode cX10_odds 85 = .ok (.if_icmp .ge 58, 3) := by decide +kernel
theorem dX10_odds_88 : decode cX10_odds 88 = .ok (.aload_n 0, 1) := by decide +kernel
theorem dX10_odds_89 : decode cX10_odds 89 = .ok (.getfield 30, 3) := by decide +kernel
theorem dX10_odds_92 : decode cX10_odds 92 = .ok (.aload_n 0, 1) := by decide +kernel
theorem dX10_odds_93 : decode cX10_odds 93 = .ok (.getfield 58, 3) := by decide +kernel
theorem dX10_odds_96 : decode cX10_odds 96 = .ok (.invokevirtual 409, 3) := by decide +kernel
theorem dX10_odds_99 : decode cX10_odds 99 = .ok (.aload_n 0, 1) := by decide +kernel
theorem dX10_odds_100 : decode cX10_odds 100 = .ok (.getfield 41, 3) := by decide +kernel
theorem dX10_odds_103 : decode cX10_odds 103 = .ok (.aload_n 0, 1) := by decide +kernel
theorem dX10_odds_104 : decode cX10_odds 104 = .ok (.getfield 30, 3) := by decide +kernel
theorem dX10_odds_107 : decode cX10_odds 107 = .ok (.iload_n 2, 1) := by decide +kernel
theorem dX10_odds_108 : decode cX10_odds 108 = .ok (.iload 5, 2) := by decide +kernel
theorem dX10_odds_110 : decode cX10_odds 110 = .ok (.iadd, 1) := by decide +kernel
theorem dX10_odds_111 : decode cX10_odds 111 = .ok (.invokevirtual 392, 3) := by decide +kernel
theorem dX10_odds_114 : decode cX10_odds 114 = .ok (.aload_n 0, 1) := by decide +kernel
theorem dX10_odds_115 : decode cX10_odds 115 = .ok (.getfield 30, 3) := by decide +kernel
theorem dX10_odds_118 : decode cX10_odds 118 = .ok (.aload_n 0, 1) := by decide +kernel
theorem dX10_odds_119 : decode cX10_odds 119 = .ok (.getfield 30, 3) := by decide +kernel
theorem dX10_odds_122 : decode cX10_odds 122 = .ok (.getfield 208, 3) := by decide +kernel
theorem dX10_odds_125 : decode cX10_odds 125 = .ok (.iload_n 1, 1) := by decide +kernel
theorem dX10_odds_126 : decode cX10_odds 126 = .ok (.aaload, 1) := by decide +kernel
theorem dX10_odds_127 : decode cX10_odds 127 = .ok (.iconst (-1), 1) := by decide +kernel
theorem dX10_odds_128 : decode cX10_odds 128 = .ok (.invokevirtual 272, 3) := by decide +kernel
theorem dX10_odds_131 : decode cX10_odds 131 = .ok (.ifCond .eq 6, 3) := by decide +kernel
theorem dX10_odds_134 : decode cX10_odds 134 = .ok (.iinc 4 1, 3) := by decide +kernel
theorem dX10_odds_137 : decode cX10_odds 137 = .ok (.iinc 5 1, 3) := by decide +kernel
theorem dX10_odds_140 : decode cX10_odds 140 = .ok (.goto (-58), 3) := by decide +kernel
theorem dX10_odds_143 : decode cX10_odds 143 = .ok (.aload_n 0, 1) := by decide +kernel
theorem dX10_odds_144 : decode cX10_odds 144 = .ok (.iload 4, 2) := by decide +kernel
theorem dX10_odds_146 : decode cX10_odds 146 = .ok (.i2l, 1) := by decide +kernel
theorem dX10_odds_147 : decode cX10_odds 147 = .ok (.iload_n 3, 1) := by decide +kernel
theorem dX10_odds_148 : decode cX10_odds 148 = .ok (.i2l, 1) := by decide +kernel
theorem dX10_odds_149 : decode cX10_odds 149 = .ok (.invokevirtual 363, 3) := by decide +kernel
theorem dX10_odds_152 : decode cX10_odds 152 = .ok (.aload_n 0, 1) := by decide +kernel
theorem dX10_odds_153 : decode cX10_odds 153 = .ok (.invokevirtual 99, 3) := by decide +kernel
theorem dX10_odds_156 : decode cX10_odds 156 = .ok (.ireturn, 1) := by decide +kernel
theorem dX10_mark_0 : decode cX10_mark 0 = .ok (.aload_n 0, 1) := by decide +kernel
theorem dX10_mark_1 : decode cX10_mark 1 = .ok (.getfield 413, 3) := by decide +kernel
theorem dX10_mark_4 : decode cX10_mark 4 = .ok (.iconst 3, 1) := by decide +kernel
theorem dX10_mark_5 : decode cX10_mark 5 = .ok (.if_icmp .lt 10, 3) := by decide +kernel
theorem dX10_mark_8 : decode cX10_mark 8 = .ok (.aload_n 0, 1) := by decide +kernel
theorem dX10_mark_9 : decode cX10_mark 9 = .ok (.bipush 7, 2) := by decide +kernel
theorem dX10_mark_11 : decode cX10_mark 11 = .ok (.invokevirtual 111, 3) := by decide +kernel
theorem dX10_mark_14 : decode cX10_mark 14 = .ok (.ireturn, 1) := by decide +kernel
theorem dX10_mark_15 : decode cX10_mark 15 = .ok (.aload_n 0, 1) := by decide +kernel
theorem dX10_mark_16 : decode cX10_mark 16 = .ok (.getfield 18, 3) := by decide +kernel
theorem dX10_mark_19 : decode cX10_mark 19 = .ok (.aload_n 0, 1) := by decide +kernel
theorem dX10_mark_20 : decode cX10_mark 20 = .ok (.getfield 413, 3) := by decide +kernel
theorem dX10_mark_23 : decode cX10_mark 23 = .ok (.aaload, 1) := by decide +kernel
theorem dX10_mark_24 : decode cX10_mark 24 = .ok (.aload_n 0, 1) := by decide +kernel
theorem dX10_mark_25 : decode cX10_mark 25 = .ok (.getfield 58, 3) := by decide +kernel
theorem dX10_mark_28 : decode cX10_mark 28 = .ok (.invokevirtual 409, 3) := by decide +kernel
theorem dX10_mark_31 : decode cX10_mark 31 = .ok (.aload_n 0, 1) := by decide +kernel
theorem dX10_mark_32 : decode cX10_mark 32 = .ok (.dup, 1) := by decide +kernel
theorem dX10_mark_33 : decode cX10_mark 33 = .ok (.getfield 413, 3) := by decide +kernel
theorem dX10_mark_36 : decode cX10_mark 36 = .ok (.iconst 1, 1) := by decide +kernel
theorem dX10_mark_37 : decode cX10_mark 37 = .ok (.iadd, 1) := by decide +kernel
theorem dX10_mark_38 : decode cX10_mark 38 = .ok (.putfield 413, 3) := by decide +kernel
theorem dX10_mark_41 : decode cX10_mark 41 = .ok (.aload_n 0, 1) := by decide +kernel
theorem dX10_mark_42 : decode cX10_mark 42 = .ok (.aload_n 0, 1) := by decide +kernel
theorem dX10_mark_43 : decode cX10_mark 43 = .ok (.getfield 413, 3) := by decide +kernel
theorem dX10_mark_46 : decode cX10_mark 46 = .ok (.invokevirtual 156, 3) := by decide +kernel
theorem dX10_mark_49 : decode cX10_mark 49 = .ok (.ireturn, 1) := by decide +kernel
theorem dX10_back_0 : decode cX10_back 0 = .ok (.aload_n 0, 1) := by decide +kernel
theorem dX10_back_1 : decode cX10_back 1 = .ok (.getfield 413, 3) := by decide +kernel
theorem dX10_back_4 : decode cX10_back 4 = .ok (.ifCond .gt 10, 3) := by decide +kernel
theorem dX10_back_7 : decode cX10_back 7 = .ok (.aload_n 0, 1) := by decide +kernel
theorem dX10_back_8 : decode cX10_back 8 = .ok (.bipush 8, 2) := by decide +kernel
theorem dX10_back_10 : decode cX10_back 10 = .ok (.invokevirtual 111, 3) := by decide +kernel
theorem dX10_back_13 : decode cX10_back 13 = .ok (.ireturn, 1) := by decide +kernel
theorem dX10_back_14 : decode cX10_back 14 = .ok (.aload_n 0, 1) := by decide +kernel
theorem dX10_back_15 : decode cX10_back 15 = .ok (.dup, 1) := by decide +kernel
theorem dX10_back_16 : decode cX10_back 16 = .ok (.getfield 413, 3) := by decide +kernel
theorem dX10_back_19 : decode cX10_back 19 = .ok (.iconst 1, 1) := by decide +kernel
theorem dX10_back_20 : decode cX10_back 20 = .ok (.isub, 1) := by decide +kernel
theorem dX10_back_21 : decode cX10_back 21 = .ok (.putfield 413, 3) := by decide +kernel
theorem dX10_back_24 : decode cX10_back 24 = .ok (.aload_n 0, 1) := by decide +kernel
theorem dX10_back_25 : decode cX10_back 25 = .ok (.getfield 58, 3) := by decide +kernel
theorem dX10_back_28 : decode cX10_back 28 = .ok (.aload_n 0, 1) := by decide +kernel
theorem dX10_back_29 : decode cX10_back 29 = .ok (.getfield 18, 3) := by decide +kernel
theorem dX10_back_32 : decode cX10_back 32 = .ok (.aload_n 0, 1) := by decide +kernel
theorem dX10_back_33 : decode cX10_back 33 = .ok (.getfield 413, 3) := by decide +kernel
theorem dX10_back_36 : decode cX10_back 36 = .ok (.aaload, 1) := by decide +kernel
theorem dX10_back_37 : decode cX10_back 37 = .ok (.invokevirtual 409, 3) := by decide +kernel
theorem dX10_back_40 : decode cX10_back 40 = .ok (.aload_n 0, 1) := by decide +kernel
theorem dX10_back_41 : decode cX10_back 41 = .ok (.aload_n 0, 1) := by decide +kernel
theorem dX10_back_42 : decode cX10_back 42 = .ok (.getfield 413, 3) := by decide +kernel
theorem dX10_back_45 : decode cX10_back 45 = .ok (.invokevirtual 156, 3) := by decide +kernel
theorem dX10_back_48 : decode cX10_back 48 = .ok (.ireturn, 1) := by decide +kernel
theorem dX10_answer_0 : decode cX10_answer 0 = .ok (.aload_n 0, 1) := by decide +kernel
theorem dX10_answer_1 : decode cX10_answer 1 = .ok (.iconst 0, 1) := by decide +kernel
theorem dX10_answer_2 : decode cX10_answer 2 = .ok (.putfield 82, 3) := by decide +kernel
theorem dX10_answer_5 : decode cX10_answer 5 = .ok (.iload_n 1, 1) := by decide +kernel
theorem dX10_answer_6 : decode cX10_answer 6 = .ok (.ireturn, 1) := by decide +kernel
theorem dX10_refuse_0 : decode cX10_refuse 0 = .ok (.aload_n 0, 1) := by decide +kernel
theorem dX10_refuse_1 : decode cX10_refuse 1 = .ok (.iload_n 1, 1) := by decide +kernel
theorem dX10_refuse_2 : decode cX10_refuse 2 = .ok (.putfield 82, 3) := by decide +kernel
theorem dX10_refuse_5 : decode cX10_refuse 5 = .ok (.iconst (-1), 1) := by decide +kernel
theorem dX10_refuse_6 : decode cX10_refuse 6 = .ok (.ireturn, 1) := by decide +kernel
theorem dX10_answerIfThere_0 : decode cX10_answerIfThere 0 = .ok (.iload_n 1, 1) := by decide +kernel
theorem dX10_answerIfThere_1 : decode cX10_answerIfThere 1 = .ok (.iconst (-1), 1) := by decide +kernel
theorem dX10_answerIfThere_2 : decode cX10_answerIfThere 2 = .ok (.if_icmp .ne 12, 3) := by decide +kernel
theorem dX10_answerIfThere_5 : decode cX10_answerIfThere 5 = .ok (.aload_n 0, 1) := by decide +kernel
theorem dX10_answerIfThere_6 : decode cX10_answerIfThere 6 = .ok (.bipush 8, 2) := by decide +kernel
theorem dX10_answerIfThere_8 : decode cX10_answerIfThere 8 = .ok (.invokevirtual 111, 3) := by decide +kernel
theorem dX10_answerIfThere_11 : decode cX10_answerIfThere 11 = .ok (.goto 8, 3) := by decide +kernel
theorem dX10_answerIfThere_14 : decode cX10_answerIfThere 14 = .ok (.aload_n 0, 1) := by decide +kernel
theorem dX10_answerIfThere_15 : decode cX10_answerIfThere 15 = .ok (.iload_n 1, 1) := by decide +kernel
theorem dX10_answerIfThere_16 : decode cX10_answerIfThere 16 = .ok (.invokevirtual 156, 3) := by decide +kernel
theorem dX10_answerIfThere_19 : decode cX10_answerIfThere 19 = .ok (.ireturn, 1) := by decide +kernel
theorem dX10_agree_0 : decode cX10_agree 0 = .ok (.aload_n 0, 1) := by decide +kernel
theorem dX10_agree_1 : decode cX10_agree 1 = .ok (.iconst 0, 1) := by decide +kernel
theorem dX10_agree_2 : decode cX10_agree 2 = .ok (.putfield 82, 3) := by decide +kernel
theorem dX10_agree_5 : decode cX10_agree 5 = .ok (.iconst 1, 1) := by decide +kernel
theorem dX10_agree_6 : decode cX10_agree 6 = .ok (.ireturn, 1) := by decide +kernel
theorem dX10_deny_0 : decode cX10_deny 0 = .ok (.aload_n 0, 1) := by decide +kernel
theorem dX10_deny_1 : decode cX10_deny 1 = .ok (.iload_n 1, 1) := by decide +kernel
theorem dX10_deny_2 : decode cX10_deny 2 = .ok (.putfield 82, 3) := by decide +kernel
theorem dX10_deny_5 : decode cX10_deny 5 = .ok (.iconst 0, 1) := by decide +kernel
theorem dX10_deny_6 : decode cX10_deny 6 = .ok (.ireturn, 1) := by decide +kernel
theorem dX10_keepFault_0 : decode cX10_keepFault 0 = .ok (.aload_n 0, 1) := by decide +kernel
theorem dX10_keepFault_1 : decode cX10_keepFault 1 = .ok (.getfield 26, 3) := by decide +kernel
theorem dX10_keepFault_4 : decode cX10_keepFault 4 = .ok (.iconst 0, 1) := by decide +kernel
theorem dX10_keepFault_5 : decode cX10_keepFault 5 = .ok (.putfield 136, 3) := by decide +kernel
theorem dX10_keepFault_8 : decode cX10_keepFault 8 = .ok (.aload_n 0, 1) := by decide +kernel
theorem dX10_keepFault_9 : decode cX10_keepFault 9 = .ok (.aload_n 0, 1) := by decide +kernel
theorem dX10_keepFault_10 : decode cX10_keepFault 10 = .ok (.getfield 26, 3) := by decide +kernel
theorem dX10_keepFault_13 : decode cX10_keepFault 13 = .ok (.getfield 416, 3) := by decide +kernel
theorem dX10_keepFault_16 : decode cX10_keepFault 16 = .ok (.putfield 75, 3) := by decide +kernel
theorem dX10_keepFault_19 : decode cX10_keepFault 19 = .ok (.aload_n 0, 1) := by decide +kernel
theorem dX10_keepFault_20 : decode cX10_keepFault 20 = .ok (.aload_n 0, 1) := by decide +kernel
theorem dX10_keepFault_21 : decode cX10_keepFault 21 = .ok (.getfield 26, 3) := by decide +kernel
theorem dX10_keepFault_24 : decode cX10_keepFault 24 = .ok (.getfield 416, 3) := by decide +kernel
theorem dX10_keepFault_27 : decode cX10_keepFault 27 = .ok (.ifCond .ne 7, 3) := by decide +kernel
theorem dX10_keepFault_30 : decode cX10_keepFault 30 = .ok (.iconst (-1), 1) := by decide +kernel
theorem dX10_keepFault_31 : decode cX10_keepFault 31 = .ok (.goto 10, 3) := by decide +kernel
theorem dX10_keepFault_34 : decode cX10_keepFault 34 = .ok (.aload_n 0, 1) := by decide +kernel
theorem dX10_keepFault_35 : decode cX10_keepFault 35 = .ok (.getfield 26, 3) := by decide +kernel
theorem dX10_keepFault_38 : decode cX10_keepFault 38 = .ok (.getfield 419, 3) := by decide +kernel
theorem dX10_keepFault_41 : decode cX10_keepFault 41 = .ok (.putfield 79, 3) := by decide +kernel
theorem dX10_keepFault_44 : decode cX10_keepFault 44 = .ok (.return_, 1) := by decide +kernel
theorem dX10_tellFraction_0 : decode cX10_tellFraction 0 = .ok (.lload_n 1, 1) := by decide +kernel
theorem dX10_tellFraction_1 : decode cX10_tellFraction 1 = .ok (.lstore 5, 2) := by decide +kernel
theorem dX10_tellFraction_3 : decode cX10_tellFraction 3 = .ok (.lload_n 3, 1) := by decide +kernel
theorem dX10_tellFraction_4 : decode cX10_tellFraction 4 = .ok (.lstore 7, 2) := by decide +kernel
theorem dX10_tellFraction_6 : decode cX10_tellFraction 6 = .ok (.iconst 0, 1) := by decide +kernel
theorem dX10_tellFraction_7 : decode cX10_tellFraction 7 = .ok (.istore 9, 2) := by decide +kernel
theorem dX10_tellFraction_9 : decode cX10_tellFraction 9 = .ok (.iload 9, 2) := by decide +kernel
theorem dX10_tellFraction_11 : decode cX10_tellFraction 11 = .ok (.sipush 200, 3) := by decide +kernel
theorem dX10_tellFraction_14 : decode cX10_tellFraction 14 = .ok (.if_icmp .ge 31, 3) := by decide +kernel
theorem dX10_tellFraction_17 : decode cX10_tellFraction 17 = .ok (.lload 7, 2) := by decide +kernel
theorem dX10_tellFraction_19 : decode cX10_tellFraction 19 = .ok (.lconst 0, 1) := by decide +kernel
theorem dX10_tellFraction_20 : decode cX10_tellFraction 20 = .ok (.lcmp, 1) := by decide +kernel
theorem dX10_tellFraction_21 : decode cX10_tellFraction 21 = .ok (.ifCond .eq 24, 3) := by decide +kernel
theorem dX10_tellFraction_24 : decode cX10_tellFraction 24 = .ok (.lload 5, 2) := by decide +kernel
theorem dX10_tellFraction_26 : decode cX10_tellFraction 26 = .ok (.lload 7, 2) := by decide +kernel
theorem dX10_tellFraction_28 : decode cX10_tellFraction 28 = .ok (.lrem, 1) := by decide +kernel
theorem dX10_tellFraction_29 : decode cX10_tellFraction 29 = .ok (.lstore 10, 2) := by decide +kernel
theorem dX10_tellFraction_31 : decode cX10_tellFraction 31 = .ok (.lload 7, 2) := by decide +kernel
theorem dX10_tellFraction_33 : decode cX10_tellFraction 33 = .ok (.lstore 5, 2) := by decide +kernel
theorem dX10_tellFraction_35 : decode cX10_tellFraction 35 = .ok (.lload 10, 2) := by decide +kernel
theorem dX10_tellFraction_37 : decode cX10_tellFraction 37 = .ok (.lstore 7, 2) := by decide +kernel
theorem dX10_tellFraction_39 : decode cX10_tellFraction 39 = .ok (.iinc 9 1, 3) := by decide +kernel
theorem dX10_tellFraction_42 : decode cX10_tellFraction 42 = .ok (.goto (-33), 3) := by decide +kernel
theorem dX10_tellFraction_45 : decode cX10_tellFraction 45 = .ok (.lload 5, 2) := by decide +kernel
theorem dX10_tellFraction_47 : decode cX10_tellFraction 47 = .ok (.lconst 0, 1) := by decide +kernel
theorem dX10_tellFraction_48 : decode cX10_tellFraction 48 = .ok (.lcmp, 1) := by decide +kernel
theorem dX10_tellFraction_49 : decode cX10_tellFraction 49 = .ok (.ifCond .le 8, 3) := by decide +kernel
theorem dX10_tellFraction_52 : decode cX10_tellFraction 52 = .ok (.lload 5, 2) := by decide +kernel
theorem dX10_tellFraction_54 : decode cX10_tellFraction 54 = .ok (.goto 4, 3) := by decide +kernel
theorem dX10_tellFraction_57 : decode cX10_tellFraction 57 = .ok (.lconst 1, 1) := by decide +kernel
theorem dX10_tellFraction_58 : decode cX10_tellFraction 58 = .ok (.lstore 9, 2) := by decide +kernel
theorem dX10_tellFraction_60 : decode cX10_tellFraction 60 = .ok (.aload_n 0, 1) := by decide +kernel
theorem dX10_tellFraction_61 : decode cX10_tellFraction 61 = .ok (.lload_n 1, 1) := by decide +kernel
theorem dX10_tellFraction_62 : decode cX10_tellFraction 62 = .ok (.lload 9, 2) := by decide +kernel
theorem dX10_tellFraction_64 : decode cX10_tellFraction 64 = .ok (.ldiv, 1) := by decide +kernel
theorem dX10_tellFraction_65 : decode cX10_tellFraction 65 = .ok (.putfield 85, 3) := by decide +kernel
theorem dX10_tellFraction_68 : decode cX10_tellFraction 68 = .ok (.aload_n 0, 1) := by decide +kernel
theorem dX10_tellFraction_69 : decode cX10_tellFraction 69 = .ok (.lload_n 3, 1) := by decide +kernel
theorem dX10_tellFraction_70 : decode cX10_tellFraction 70 = .ok (.lload 9, 2) := by decide +kernel
theorem dX10_tellFraction_72 : decode cX10_tellFraction 72 = .ok (.ldiv, 1) := by decide +kernel
theorem dX10_tellFraction_73 : decode cX10_tellFraction 73 = .ok (.putfield 71, 3) := by decide +kernel
theorem dX10_tellFraction_76 : decode cX10_tellFraction 76 = .ok (.return_, 1) := by decide +kernel
theorem dX10_isTray_0 : decode cX10_isTray 0 = .ok (.iload_n 0, 1) := by decide +kernel
theorem dX10_isTray_1 : decode cX10_isTray 1 = .ok (.ifCond .lt 12, 3) := by decide +kernel
theorem dX10_isTray_4 : decode cX10_isTray 4 = .ok (.iload_n 0, 1) := by decide +kernel
theorem dX10_isTray_5 : decode cX10_isTray 5 = .ok (.iconst 4, 1) := by decide +kernel
theorem dX10_isTray_6 : decode cX10_isTray 6 = .ok (.if_icmp .ge 7, 3) := by decide +kernel
theorem dX10_isTray_9 : decode cX10_isTray 9 = .ok (.iconst 1, 1) := by decide +kernel
theorem dX10_isTray_10 : decode cX10_isTray 10 = .ok (.goto 4, 3) := by decide +kernel
theorem dX10_isTray_13 : decode cX10_isTray 13 = .ok (.iconst 0, 1) := by decide +kernel
theorem dX10_isTray_14 : decode cX10_isTray 14 = .ok (.ireturn, 1) := by decide +kernel
theorem dX10_askPlace_0 : decode cX10_askPlace 0 = .ok (.iload_n 1, 1) := by decide +kernel
theorem dX10_askPlace_1 : decode cX10_askPlace 1 = .ok (.invokestatic 88, 3) := by decide +kernel
theorem dX10_askPlace_4 : decode cX10_askPlace 4 = .ok (.ifCond .ne 5, 3) := by decide +kernel
theorem dX10_askPlace_7 : decode cX10_askPlace 7 = .ok (.iconst 1, 1) := by decide +kernel
theorem dX10_askPlace_8 : decode cX10_askPlace 8 = .ok (.ireturn, 1) := by decide +kernel
theorem dX10_askPlace_9 : decode cX10_askPlace 9 = .ok (.aload_n 0, 1) := by decide +kernel
theorem dX10_askPlace_10 : decode cX10_askPlace 10 = .ok (.getfield 11, 3) := by decide +kernel
theorem dX10_askPlace_13 : decode cX10_askPlace 13 = .ok (.iload_n 1, 1) := by decide +kernel
theorem dX10_askPlace_14 : decode cX10_askPlace 14 = .ok (.aaload, 1) := by decide +kernel
theorem dX10_askPlace_15 : decode cX10_askPlace 15 = .ok (.getfield 119, 3) := by decide +kernel
theorem dX10_askPlace_18 : decode cX10_askPlace 18 = .ok (.ifCond .ne 5, 3) := by decide +kernel
theorem dX10_askPlace_21 : decode cX10_askPlace 21 = .ok (.iconst 3, 1) := by decide +kernel
theorem dX10_askPlace_22 : decode cX10_askPlace 22 = .ok (.ireturn, 1) := by decide +kernel
theorem dX10_askPlace_23 : decode cX10_askPlace 23 = .ok (.iload_n 2, 1) := by decide +kernel
theorem dX10_askPlace_24 : decode cX10_askPlace 24 = .ok (.ifCond .lt 20, 3) := by decide +kernel
theorem dX10_askPlace_27 : decode cX10_askPlace 27 = .ok (.iload_n 2, 1) := by decide +kernel
theorem dX10_askPlace_28 : decode cX10_askPlace 28 = .ok (.aload_n 0, 1) := by decide +kernel
theorem dX10_askPlace_29 : decode cX10_askPlace 29 = .ok (.getfield 11, 3) := by decide +kernel
theorem dX10_askPlace_32 : decode cX10_askPlace 32 = .ok (.iload_n 1, 1) := by decide +kernel
theorem dX10_askPlace_33 : decode cX10_askPlace 33 = .ok (.aaload, 1) := by decide +kernel
theorem dX10_askPlace_34 : decode cX10_askPlace 34 = .ok (.getfield 243, 3) := by decide +kernel
theorem dX10_askPlace_37 : decode cX10_askPlace 37 = .ok (.if_icmp .ge 7, 3) := by decide +kernel
theorem dX10_askPlace_40 : decode cX10_askPlace 40 = .ok (.iconst 0, 1) := by decide +kernel
theorem dX10_askPlace_41 : decode cX10_askPlace 41 = .ok (.goto 4, 3) := by decide +kernel
theorem dX10_askPlace_44 : decode cX10_askPlace 44 = .ok (.iconst 4, 1) := by decide +kernel
theorem dX10_askPlace_45 : decode cX10_askPlace 45 = .ok (.ireturn, 1) := by decide +kernel
theorem dX10_askRow_0 : decode cX10_askRow 0 = .ok (.iload_n 1, 1) := by decide +kernel
theorem dX10_askRow_1 : decode cX10_askRow 1 = .ok (.invokestatic 88, 3) := by decide +kernel
theorem dX10_askRow_4 : decode cX10_askRow 4 = .ok (.ifCond .ne 5, 3) := by decide +kernel
theorem dX10_askRow_7 : decode cX10_askRow 7 = .ok (.iconst 1, 1) := by decide +kernel
theorem dX10_askRow_8 : decode cX10_askRow 8 = .ok (.ireturn, 1) := by decide +kernel
theorem dX10_askRow_9 : decode cX10_askRow 9 = .ok (.aload_n 0, 1) := by decide +kernel
theorem dX10_askRow_10 : decode cX10_askRow 10 = .ok (.getfield 11, 3) := by decide +kernel
theorem dX10_askRow_13 : decode cX10_askRow 13 = .ok (.iload_n 1, 1) := by decide +kernel
theorem dX10_askRow_14 : decode cX10_askRow 14 = .ok (.aaload, 1) := by decide +kernel
theorem dX10_askRow_15 : decode cX10_askRow 15 = .ok (.getfield 119, 3) := by decide +kernel
theorem dX10_askRow_18 : decode cX10_askRow 18 = .ok (.ifCond .ne 5, 3) := by decide +kernel
theorem dX10_askRow_21 : decode cX10_askRow 21 = .ok (.iconst 3, 1) := by decide +kernel
theorem dX10_askRow_22 : decode cX10_askRow 22 = .ok (.ireturn, 1) := by decide +kernel
theorem dX10_askRow_23 : decode cX10_askRow 23 = .ok (.iload_n 2, 1) := by decide +kernel
theorem dX10_askRow_24 : decode cX10_askRow 24 = .ok (.aload_n 0, 1) := by decide +kernel
theorem dX10_askRow_25 : decode cX10_askRow 25 = .ok (.getfield 11, 3) := by decide +kernel
theorem dX10_askRow_28 : decode cX10_askRow 28 = .ok (.iload_n 1, 1) := by decide +kernel
theorem dX10_askRow_29 : decode cX10_askRow 29 = .ok (.aaload, 1) := by decide +kernel
theorem dX10_askRow_30 : decode cX10_askRow 30 = .ok (.getfield 243, 3) := by decide +kernel
theorem dX10_askRow_33 : decode cX10_askRow 33 = .ok (.if_icmp .le 5, 3) := by decide +kernel
theorem dX10_askRow_36 : decode cX10_askRow 36 = .ok (.iconst 4, 1) := by decide +kernel
theorem dX10_askRow_37 : decode cX10_askRow 37 = .ok (.ireturn, 1) := by decide +kernel
theorem dX10_askRow_38 : decode cX10_askRow 38 = .ok (.iload_n 2, 1) := by decide +kernel
theorem dX10_askRow_39 : decode cX10_askRow 39 = .ok (.iload_n 3, 1) := by decide +kernel
theorem dX10_askRow_40 : decode cX10_askRow 40 = .ok (.if_icmp .lt 13, 3) := by decide +kernel
theorem dX10_askRow_43 : decode cX10_askRow 43 = .ok (.iload_n 2, 1) := by decide +kernel
theorem dX10_askRow_44 : decode cX10_askRow 44 = .ok (.bipush 12, 2) := by decide +kernel
theorem dX10_askRow_46 : decode cX10_askRow 46 = .ok (.if_icmp .gt 7, 3) := by decide +kernel
theorem dX10_askRow_49 : decode cX10_askRow 49 = .ok (.iconst 0, 1) := by decide +kernel
theorem dX10_askRow_50 : decode cX10_askRow 50 = .ok (.goto 4, 3) := by decide +kernel
theorem dX10_askRow_53 : decode cX10_askRow 53 = .ok (.iconst 5, 1) := by decide +kernel
theorem dX10_askRow_54 : decode cX10_askRow 54 = .ok (.ireturn, 1) := by decide +kernel
theorem dX10_askTold_0 : decode cX10_askTold 0 = .ok (.aload_n 0, 1) := by decide +kernel
theorem dX10_askTold_1 : decode cX10_askTold 1 = .ok (.iload_n 1, 1) := by decide +kernel
theorem dX10_askTold_2 : decode cX10_askTold 2 = .ok (.iload_n 2, 1) := by decide +kernel
theorem dX10_askTold_3 : decode cX10_askTold 3 = .ok (.iconst 0, 1) := by decide +kernel
theorem dX10_askTold_4 : decode cX10_askTold 4 = .ok (.invokevirtual 309, 3) := by decide +kernel
theorem dX10_askTold_7 : decode cX10_askTold 7 = .ok (.istore_n 3, 1) := by decide +kernel
theorem dX10_askTold_8 : decode cX10_askTold 8 = .ok (.iload_n 3, 1) := by decide +kernel
theorem dX10_askTold_9 : decode cX10_askTold 9 = .ok (.ifCond .eq 5, 3) := by decide +kernel
theorem dX10_askTold_12 : decode cX10_askTold 12 = .ok (.iload_n 3, 1) := by decide +kernel
theorem dX10_askTold_13 : decode cX10_askTold 13 = .ok (.ireturn, 1) := by decide +kernel
theorem dX10_askTold_14 : decode cX10_askTold 14 = .ok (.aload_n 0, 1) := by decide +kernel
theorem dX10_askTold_15 : decode cX10_askTold 15 = .ok (.getfield 47, 3) := by decide +kernel
theorem dX10_askTold_18 : decode cX10_askTold 18 = .ok (.aload_n 0, 1) := by decide +kernel
theorem dX10_askTold_19 : decode cX10_askTold 19 = .ok (.getfield 11, 3) := by decide +kernel
theorem dX10_askTold_22 : decode cX10_askTold 22 = .ok (.iload_n 1, 1) := by decide +kernel
theorem dX10_askTold_23 : decode cX10_askTold 23 = .ok (.aaload, 1) := by decide +kernel
theorem dX10_askTold_24 : decode cX10_askTold 24 = .ok (.iload_n 2, 1) := by decide +kernel
theorem dX10_askTold_25 : decode cX10_askTold 25 = .ok (.invokevirtual 422, 3) := by decide +kernel
theorem dX10_askTold_28 : decode cX10_askTold 28 = .ok (.ifCond .eq 7, 3) := by decide +kernel
theorem dX10_askTold_31 : decode cX10_askTold 31 = .ok (.iconst 0, 1) := by decide +kernel
theorem dX10_askTold_32 : decode cX10_askTold 32 = .ok (.goto 4, 3) := by decide +kernel
theorem dX10_askTold_35 : decode cX10_askTold 35 = .ok (.iconst 5, 1) := by decide +kernel
theorem dX10_askTold_36 : decode cX10_askTold 36 = .ok (.ireturn, 1) := by decide +kernel
theorem dX10_askTwo_0 : decode cX10_askTwo 0 = .ok (.aload_n 0, 1) := by decide +kernel
theorem dX10_askTwo_1 : decode cX10_askTwo 1 = .ok (.getfield 58, 3) := by decide +kernel
theorem dX10_askTwo_4 : decode cX10_askTwo 4 = .ok (.iload_n 1, 1) := by decide +kernel
theorem dX10_askTwo_5 : decode cX10_askTwo 5 = .ok (.invokevirtual 205, 3) := by decide +kernel
theorem dX10_askTwo_8 : decode cX10_askTwo 8 = .ok (.ifCond .eq 14, 3) := by decide +kernel
theorem dX10_askTwo_11 : decode cX10_askTwo 11 = .ok (.aload_n 0, 1) := by decide +kernel
theorem dX10_askTwo_12 : decode cX10_askTwo 12 = .ok (.getfield 58, 3) := by decide +kernel
theorem dX10_askTwo_15 : decode cX10_askTwo 15 = .ok (.iload_n 2, 1) := by decide +kernel
theorem dX10_askTwo_16 : decode cX10_askTwo 16 = .ok (.invokevirtual 205, 3) := by decide +kernel
theorem dX10_askTwo_19 : decode cX10_askTwo 19 = .ok (.ifCond .ne 5, 3) := by decide +kernel
theorem dX10_askTwo_22 : decode cX10_askTwo 22 = .ok (.iconst 2, 1) := by decide +kernel
theorem dX10_askTwo_23 : decode cX10_askTwo 23 = .ok (.ireturn, 1) := by decide +kernel
theorem dX10_askTwo_24 : decode cX10_askTwo 24 = .ok (.iload_n 1, 1) := by decide +kernel
theorem dX10_askTwo_25 : decode cX10_askTwo 25 = .ok (.iload_n 2, 1) := by decide +kernel
theorem dX10_askTwo_26 : decode cX10_askTwo 26 = .ok (.if_icmp .ne 7, 3) := by decide +kernel
theorem dX10_askTwo_29 : decode cX10_askTwo 29 = .ok (.iconst 5, 1) := by decide +kernel
theorem dX10_askTwo_30 : decode cX10_askTwo 30 = .ok (.goto 4, 3) := by decide +kernel
theorem dX10_askTwo_33 : decode cX10_askTwo 33 = .ok (.iconst 0, 1) := by decide +kernel
theorem dX10_askTwo_34 : decode cX10_askTwo 34 = .ok (.ireturn, 1) := by decide +kernel
theorem dX10_askPlan_0 : decode cX10_askPlan 0 = .ok (.aload_n 2, 1) := by decide +kernel
theorem dX10_askPlan_1 : decode cX10_askPlan 1 = .ok (.getfield 119, 3) := by decide +kernel
theorem dX10_askPlan_4 : decode cX10_askPlan 4 = .ok (.ifCond .ne 5, 3) := by decide +kernel
theorem dX10_askPlan_7 : decode cX10_askPlan 7 = .ok (.iconst 0, 1) := by decide +kernel
theorem dX10_askPlan_8 : decode cX10_askPlan 8 = .ok (.ireturn, 1) := by decide +kernel
theorem dX10_askPlan_9 : decode cX10_askPlan 9 = .ok (.aload_n 0, 1) := by decide +kernel
theorem dX10_askPlan_10 : decode cX10_askPlan 10 = .ok (.getfield 58, 3) := by decide +kernel
theorem dX10_askPlan_13 : decode cX10_askPlan 13 = .ok (.aload_n 2, 1) := by decide +kernel
theorem dX10_askPlan_14 : decode cX10_askPlan 14 = .ok (.aload_n 2, 1) := by decide +kernel
theorem dX10_askPlan_15 : decode cX10_askPlan 15 = .ok (.getfield 243, 3) := by decide +kernel
theorem dX10_askPlan_18 : decode cX10_askPlan 18 = .ok (.invokevirtual 313, 3) := by decide +kernel
theorem dX10_askPlan_21 : decode cX10_askPlan 21 = .ok (.ifCond .ne 5, 3) := by decide +kernel
theorem dX10_askPlan_24 : decode cX10_askPlan 24 = .ok (.iconst 2, 1) := by decide +kernel
theorem dX10_askPlan_25 : decode cX10_askPlan 25 = .ok (.ireturn, 1) := by decide +kernel
theorem dX10_askPlan_26 : decode cX10_askPlan 26 = .ok (.aload_n 2, 1) := by decide +kernel
theorem dX10_askPlan_27 : decode cX10_askPlan 27 = .ok (.getfield 243, 3) := by decide +kernel
theorem dX10_askPlan_30 : decode cX10_askPlan 30 = .ok (.bipush 12, 2) := by decide +kernel
theorem dX10_askPlan_32 : decode cX10_askPlan 32 = .ok (.if_icmp .le 5, 3) := by decide +kernel
theorem dX10_askPlan_35 : decode cX10_askPlan 35 = .ok (.iconst 5, 1) := by decide +kernel
theorem dX10_askPlan_36 : decode cX10_askPlan 36 = .ok (.ireturn, 1) := by decide +kernel
theorem dX10_askPlan_37 : decode cX10_askPlan 37 = .ok (.aload_n 0, 1) := by decide +kernel
theorem dX10_askPlan_38 : decode cX10_askPlan 38 = .ok (.getfield 58, 3) := by decide +kernel
theorem dX10_askPlan_41 : decode cX10_askPlan 41 = .ok (.aload_n 2, 1) := by decide +kernel
theorem dX10_askPlan_42 : decode cX10_askPlan 42 = .ok (.aload_n 2, 1) := by decide +kernel
theorem dX10_askPlan_43 : decode cX10_askPlan 43 = .ok (.getfield 243, 3) := by decide +kernel
theorem dX10_askPlan_46 : decode cX10_askPlan 46 = .ok (.aload_n 1, 1) := by decide +kernel
theorem dX10_askPlan_47 : decode cX10_askPlan 47 = .ok (.getfield 226, 3) := by decide +kernel
theorem dX10_askPlan_50 : decode cX10_askPlan 50 = .ok (.invokevirtual 317, 3) := by decide +kernel
theorem dX10_askPlan_53 : decode cX10_askPlan 53 = .ok (.iconst (-1), 1) := by decide +kernel
theorem dX10_askPlan_54 : decode cX10_askPlan 54 = .ok (.if_icmp .ne 7, 3) := by decide +kernel
theorem dX10_askPlan_57 : decode cX10_askPlan 57 = .ok (.iconst 0, 1) := by decide +kernel
theorem dX10_askPlan_58 : decode cX10_askPlan 58 = .ok (.goto 5, 3) := by decide +kernel
theorem dX10_askPlan_61 : decode cX10_askPlan 61 = .ok (.bipush 9, 2) := by decide +kernel
theorem dX10_askPlan_63 : decode cX10_askPlan 63 = .ok (.ireturn, 1) := by decide +kernel
