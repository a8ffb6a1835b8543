theorem dX0_init_0 : decode cX0_init 0 = .ok (.aload_n 0, 1) := by decide +kernel
theorem dX0_init_1 : decode cX0_init 1 = .ok (.invokespecial 3, 3) := by decide +kernel
theorem dX0_init_4 : decode cX0_init 4 = .ok (.aload_n 0, 1) := by decide +kernel
theorem dX0_init_5 : decode cX0_init 5 = .ok (.bipush 30, 2) := by decide +kernel
theorem dX0_init_7 : decode cX0_init 7 = .ok (.newarray .int, 2) := by decide +kernel
theorem dX0_init_9 : decode cX0_init 9 = .ok (.putfield 9, 3) := by decide +kernel
theorem dX0_init_12 : decode cX0_init 12 = .ok (.aload_n 0, 1) := by decide +kernel
theorem dX0_init_13 : decode cX0_init 13 = .ok (.bipush 30, 2) := by decide +kernel
theorem dX0_init_15 : decode cX0_init 15 = .ok (.newarray .int, 2) := by decide +kernel
theorem dX0_init_17 : decode cX0_init 17 = .ok (.putfield 15, 3) := by decide +kernel
theorem dX0_init_20 : decode cX0_init 20 = .ok (.aload_n 0, 1) := by decide +kernel
theorem dX0_init_21 : decode cX0_init 21 = .ok (.bipush 30, 2) := by decide +kernel
theorem dX0_init_23 : decode cX0_init 23 = .ok (.newarray .int, 2) := by decide +kernel
theorem dX0_init_25 : decode cX0_init 25 = .ok (.putfield 18, 3) := by decide +kernel
theorem dX0_init_28 : decode cX0_init 28 = .ok (.aload_n 0, 1) := by decide +kernel
theorem dX0_init_29 : decode cX0_init 29 = .ok (.bipush 30, 2) := by decide +kernel
theorem dX0_init_31 : decode cX0_init 31 = .ok (.newarray .int, 2) := by decide +kernel
theorem dX0_init_33 : decode cX0_init 33 = .ok (.putfield 21, 3) := by decide +kernel
theorem dX0_init_36 : decode cX0_init 36 = .ok (.aload_n 0, 1) := by decide +kernel
theorem dX0_init_37 : decode cX0_init 37 = .ok (.bipush 30, 2) := by decide +kernel
theorem dX0_init_39 : decode cX0_init 39 = .ok (.newarray .int, 2) := by decide +kernel
theorem dX0_init_41 : decode cX0_init 41 = .ok (.putfield 24, 3) := by decide +kernel
theorem dX0_init_44 : decode cX0_init 44 = .ok (.aload_n 0, 1) := by decide +kernel
theorem dX0_init_45 : decode cX0_init 45 = .ok (.iconst 3, 1) := by decide +kernel
theorem dX0_init_46 : decode cX0_init 46 = .ok (.newarray .int, 2) := by decide +kernel
theorem dX0_init_48 : decode cX0_init 48 = .ok (.putfield 27, 3) := by decide +kernel
theorem dX0_init_51 : decode cX0_init 51 = .ok (.return_, 1) := by decide +kernel
theorem dX0_copyFrom_0 : decode cX0_copyFrom 0 = .ok (.aload_n 1, 1) := by decide +kernel
theorem dX0_copyFrom_1 : decode cX0_copyFrom 1 = .ok (.getfield 9, 3) := by decide +kernel
theorem dX0_copyFrom_4 : decode cX0_copyFrom 4 = .ok (.iconst 0, 1) := by decide +kernel
theorem dX0_copyFrom_5 : decode cX0_copyFrom 5 = .ok (.aload_n 0, 1) := by decide +kernel
theorem dX0_copyFrom_6 : decode cX0_copyFrom 6 = .ok (.getfield 9, 3) := by decide +kernel
theorem dX0_copyFrom_9 : decode cX0_copyFrom 9 = .ok (.iconst 0, 1) := by decide +kernel
theorem dX0_copyFrom_10 : decode cX0_copyFrom 10 = .ok (.bipush 30, 2) := by decide +kernel
theorem dX0_copyFrom_12 : decode cX0_copyFrom 12 = .ok (.invokestatic 30, 3) := by decide +kernel
theorem dX0_copyFrom_15 : decode cX0_copyFrom 15 = .ok (.aload_n 1, 1) := by decide +kernel
theorem dX0_copyFrom_16 : decode cX0_copyFrom 16 = .ok (.getfield 15, 3) := by decide +kernel
theorem dX0_copyFrom_19 : decode cX0_copyFrom 19 = .ok (.iconst 0, 1) := by decide +kernel
theorem dX0_copyFrom_20 : decode cX0_copyFrom 20 = .ok (.aload_n 0, 1) := by decide +kernel
theorem dX0_copyFrom_21 : decode cX0_copyFrom 21 = .ok (.getfield 15, 3) := by decide +kernel
theorem dX0_copyFrom_24 : decode cX0_copyFrom 24 = .ok (.iconst 0, 1) := by decide +kernel
theorem dX0_copyFrom_25 : decode cX0_copyFrom 25 = .ok (.bipush 30, 2) := by decide +kernel
theorem dX0_copyFrom_27 : decode cX0_copyFrom 27 = .ok (.invokestatic 30, 3) := by decide +kernel
theorem dX0_copyFrom_30 : decode cX0_copyFrom 30 = .ok (.aload_n 1, 1) := by decide +kernel
theorem dX0_copyFrom_31 : decode cX0_copyFrom 31 = .ok (.getfield 18, 3) := by decide +kernel
theorem dX0_copyFrom_34 : decode cX0_copyFrom 34 = .ok (.iconst 0, 1) := by decide +kernel
theorem dX0_copyFrom_35 : decode cX0_copyFrom 35 = .ok (.aload_n 0, 1) := by decide +kernel
theorem dX0_copyFrom_36 : decode cX0_copyFrom 36 = .ok (.getfield 18, 3) := by decide +kernel
theorem dX0_copyFrom_39 : decode cX0_copyFrom 39 = .ok (.iconst 0, 1) := by decide +kernel
theorem dX0_copyFrom_40 : decode cX0_copyFrom 40 = .ok (.bipush 30, 2) := by decide +kernel
theorem dX0_copyFrom_42 : decode cX0_copyFrom 42 = .ok (.invokestatic 30, 3) := by decide +kernel
theorem dX0_copyFrom_45 : decode cX0_copyFrom 45 = .ok (.aload_n 1, 1) := by decide +kernel
theorem dX0_copyFrom_46 : decode cX0_copyFrom 46 = .ok (.getfield 21, 3) := by decide +kernel
theorem dX0_copyFrom_49 : decode cX0_copyFrom 49 = .ok (.iconst 0, 1) := by decide +kernel
theorem dX0_copyFrom_50 : decode cX0_copyFrom 50 = .ok (.aload_n 0, 1) := by decide +kernel
theorem dX0_copyFrom_51 : decode cX0_copyFrom 51 = .ok (.getfield 21, 3) := by decide +kernel
theorem dX0_copyFrom_54 : decode cX0_copyFrom 54 = .ok (.iconst 0, 1) := by decide +kernel
theorem dX0_copyFrom_55 : decode cX0_copyFrom 55 = .ok (.bipush 30, 2) := by decide +kernel
theorem dX0_copyFrom_57 : decode cX0_copyFrom 57 = .ok (.invokestatic 30, 3) := by decide +kernel
theorem dX0_copyFrom_60 : decode cX0_copyFrom 60 = .ok (.aload_n 1, 1) := by decide +kernel
theorem dX0_copyFrom_61 : decode cX0_copyFrom 61 = .ok (.getfield 24, 3) := by decide +kernel
theorem dX0_copyFrom_64 : decode cX0_copyFrom 64 = .ok (.iconst 0, 1) := by decide +kernel
theorem dX0_copyFrom_65 : decode cX0_copyFrom 65 = .ok (.aload_n 0, 1) := by decide +kernel
theorem dX0_copyFrom_66 : decode cX0_copyFrom 66 = .ok (.getfield 24, 3) := by decide +kernel
theorem dX0_copyFrom_69 : decode cX0_copyFrom 69 = .ok (.iconst 0, 1) := by decide +kernel
theorem dX0_copyFrom_70 : decode cX0_copyFrom 70 = .ok (.bipush 30, 2) := by decide +kernel
theorem dX0_copyFrom_72 : decode cX0_copyFrom 72 = .ok (.invokestatic 30, 3) := by decide +kernel
theorem dX0_copyFrom_75 : decode cX0_copyFrom 75 = .ok (.aload_n 0, 1) := by decide +kernel
theorem dX0_copyFrom_76 : decode cX0_copyFrom 76 = .ok (.aload_n 1, 1) := by decide +kernel
theorem dX0_copyFrom_77 : decode cX0_copyFrom 77 = .ok (.getfield 36, 3) := by decide +kernel
theorem dX0_copyFrom_80 : decode cX0_copyFrom 80 = .ok (.putfield 36, 3) := by decide +kernel
theorem dX0_copyFrom_83 : decode cX0_copyFrom 83 = .ok (.aload_n 0, 1) := by decide +kernel
theorem dX0_copyFrom_84 : decode cX0_copyFrom 84 = .ok (.aload_n 1, 1) := by decide +kernel
theorem dX0_copyFrom_85 : decode cX0_copyFrom 85 = .ok (.getfield 40, 3) := by decide +kernel
theorem dX0_copyFrom_88 : decode cX0_copyFrom 88 = .ok (.putfield 40, 3) := by decide +kernel
theorem dX0_copyFrom_91 : decode cX0_copyFrom 91 = .ok (.return_, 1) := by decide +kernel
theorem dX0_readText_0 : decode cX0_readText 0 = .ok (.aload_n 0, 1) := by decide +kernel
theorem dX0_readText_1 : decode cX0_readText 1 = .ok (.iconst 1, 1) := by decide +kernel
theorem dX0_readText_2 : decode cX0_readText 2 = .ok (.putfield 36, 3) := by decide +kernel
theorem dX0_readText_5 : decode cX0_readText 5 = .ok (.aload_n 0, 1) := by decide +kernel
theorem dX0_readText_6 : decode cX0_readText 6 = .ok (.iconst 0, 1) := by decide +kernel
theorem dX0_readText_7 : decode cX0_readText 7 = .ok (.putfield 40, 3) := by decide +kernel
theorem dX0_readText_10 : decode cX0_readText 10 = .ok (.aload_n 0, 1) := by decide +kernel
theorem dX0_readText_11 : decode cX0_readText 11 = .ok (.iconst 0, 1) := by decide +kernel
theorem dX0_readText_12 : decode cX0_readText 12 = .ok (.putfield 44, 3) := by decide +kernel
theorem dX0_readText_15 : decode cX0_readText 15 = .ok (.iconst 0, 1) := by decide +kernel
theorem dX0_readText_16 : decode cX0_readText 16 = .ok (.istore_n 3, 1) := by decide +kernel
theorem dX0_readText_17 : decode cX0_readText 17 = .ok (.iload_n 3, 1) := by decide +kernel
theorem dX0_readText_18 : decode cX0_readText 18 = .ok (.sipush 300, 3) := by decide +kernel
theorem dX0_readText_21 : decode cX0_readText 21 = .ok (.if_icmp .ge 45, 3) := by decide +kernel
theorem dX0_readText_24 : decode cX0_readText 24 = .ok (.aload_n 1, 1) := by decide +kernel
theorem dX0_readText_25 : decode cX0_readText 25 = .ok (.invokevirtual 47, 3) := by decide +kernel
theorem dX0_readText_28 : decode cX0_readText 28 = .ok (.ifCond .eq 38, 3) := by decide +kernel
theorem dX0_readText_31 : decode cX0_readText 31 = .ok (.aload_n 1, 1) := by decide +kernel
theorem dX0_readText_32 : decode cX0_readText 32 = .ok (.bipush 21, 2) := by decide +kernel
theorem dX0_readText_34 : decode cX0_readText 34 = .ok (.invokevirtual 53, 3) := by decide +kernel
theorem dX0_readText_37 : decode cX0_readText 37 = .ok (.ifCond .eq 11, 3) := by decide +kernel
theorem dX0_readText_40 : decode cX0_readText 40 = .ok (.aload_n 0, 1) := by decide +kernel
theorem dX0_readText_41 : decode cX0_readText 41 = .ok (.aload_n 1, 1) := by decide +kernel
theorem dX0_readText_42 : decode cX0_readText 42 = .ok (.invokevirtual 57, 3) := by decide +kernel
theorem dX0_readText_45 : decode cX0_readText 45 = .ok (.goto 9, 3) := by decide +kernel
theorem dX0_readText_48 : decode cX0_readText 48 = .ok (.aload_n 0, 1) := by decide +kernel
theorem dX0_readText_49 : decode cX0_readText 49 = .ok (.aload_n 1, 1) := by decide +kernel
theorem dX0_readText_50 : decode cX0_readText 50 = .ok (.aload_n 2, 1) := by decide +kernel
theorem dX0_readText_51 : decode cX0_readText 51 = .ok (.invokevirtual 61, 3) := by decide +kernel
theorem dX0_readText_54 : decode cX0_readText 54 = .ok (.aload_n 1, 1) := by decide +kernel
theorem dX0_readText_55 : decode cX0_readText 55 = .ok (.bipush 59, 2) := by decide +kernel
theorem dX0_readText_57 : decode cX0_readText 57 = .ok (.invokevirtual 65, 3) := by decide +kernel
theorem dX0_readText_60 : decode cX0_readText 60 = .ok (.iinc 3 1, 3) := by decide +kernel
theorem dX0_readText_63 : decode cX0_readText 63 = .ok (.goto (-46), 3) := by decide +kernel
theorem dX0_readText_66 : decode cX0_readText 66 = .ok (.aload_n 0, 1) := by decide +kernel
theorem dX0_readText_67 : decode cX0_readText 67 = .ok (.getfield 44, 3) := by decide +kernel
theorem dX0_readText_70 : decode cX0_readText 70 = .ok (.ifCond .le 7, 3) := by decide +kernel
theorem dX0_readText_73 : decode cX0_readText 73 = .ok (.aload_n 1, 1) := by decide +kernel
theorem dX0_readText_74 : decode cX0_readText 74 = .ok (.invokevirtual 69, 3) := by decide +kernel
theorem dX0_readText_77 : decode cX0_readText 77 = .ok (.return_, 1) := by decide +kernel
theorem dX0_closeBlock_0 : decode cX0_closeBlock 0 = .ok (.aload_n 0, 1) := by decide +kernel
theorem dX0_closeBlock_1 : decode cX0_closeBlock 1 = .ok (.getfield 44, 3) := by decide +kernel
theorem dX0_closeBlock_4 : decode cX0_closeBlock 4 = .ok (.ifCond .gt 8, 3) := by decide +kernel
theorem dX0_closeBlock_7 : decode cX0_closeBlock 7 = .ok (.aload_n 1, 1) := by decide +kernel
theorem dX0_closeBlock_8 : decode cX0_closeBlock 8 = .ok (.invokevirtual 69, 3) := by decide +kernel
theorem dX0_closeBlock_11 : decode cX0_closeBlock 11 = .ok (.return_, 1) := by decide +kernel
theorem dX0_closeBlock_12 : decode cX0_closeBlock 12 = .ok (.aload_n 0, 1) := by decide +kernel
theorem dX0_closeBlock_13 : decode cX0_closeBlock 13 = .ok (.dup, 1) := by decide +kernel
theorem dX0_closeBlock_14 : decode cX0_closeBlock 14 = .ok (.getfield 44, 3) := by decide +kernel
theorem dX0_closeBlock_17 : decode cX0_closeBlock 17 = .ok (.iconst 1, 1) := by decide +kernel
theorem dX0_closeBlock_18 : decode cX0_closeBlock 18 = .ok (.isub, 1) := by decide +kernel
theorem dX0_closeBlock_19 : decode cX0_closeBlock 19 = .ok (.putfield 44, 3) := by decide +kernel
theorem dX0_closeBlock_22 : decode cX0_closeBlock 22 = .ok (.aload_n 0, 1) := by decide +kernel
theorem dX0_closeBlock_23 : decode cX0_closeBlock 23 = .ok (.getfield 24, 3) := by decide +kernel
theorem dX0_closeBlock_26 : decode cX0_closeBlock 26 = .ok (.aload_n 0, 1) := by decide +kernel
theorem dX0_closeBlock_27 : decode cX0_closeBlock 27 = .ok (.getfield 27, 3) := by decide +kernel
theorem dX0_closeBlock_30 : decode cX0_closeBlock 30 = .ok (.aload_n 0, 1) := by decide +kernel
theorem dX0_closeBlock_31 : decode cX0_closeBlock 31 = .ok (.getfield 44, 3) := by decide +kernel
theorem dX0_closeBlock_34 : decode cX0_closeBlock 34 = .ok (.iaload, 1) := by decide +kernel
theorem dX0_closeBlock_35 : decode cX0_closeBlock 35 = .ok (.aload_n 0, 1) := by decide +kernel
theorem dX0_closeBlock_36 : decode cX0_closeBlock 36 = .ok (.getfield 40, 3) := by decide +kernel
theorem dX0_closeBlock_39 : decode cX0_closeBlock 39 = .ok (.iastore, 1) := by decide +kernel
theorem dX0_closeBlock_40 : decode cX0_closeBlock 40 = .ok (.aload_n 1, 1) := by decide +kernel
theorem dX0_closeBlock_41 : decode cX0_closeBlock 41 = .ok (.invokevirtual 72, 3) := by decide +kernel
theorem dX0_closeBlock_44 : decode cX0_closeBlock 44 = .ok (.return_, 1) := by decide +kernel
theorem dX0_readStep_0 : decode cX0_readStep 0 = .ok (.aload_n 1, 1) := by decide +kernel
theorem dX0_readStep_1 : decode cX0_readStep 1 = .ok (.getfield 75, 3) := by decide +kernel
theorem dX0_readStep_4 : decode cX0_readStep 4 = .ok (.istore_n 3, 1) := by decide +kernel
theorem dX0_readStep_5 : decode cX0_readStep 5 = .ok (.aload_n 1, 1) := by decide +kernel
theorem dX0_readStep_6 : decode cX0_readStep 6 = .ok (.getfield 78, 3) := by decide +kernel
theorem dX0_readStep_9 : decode cX0_readStep 9 = .ok (.iconst 1, 1) := by decide +kernel
theorem dX0_readStep_10 : decode cX0_readStep 10 = .ok (.if_icmp .ne 10, 3) := by decide +kernel
theorem dX0_readStep_13 : decode cX0_readStep 13 = .ok (.iload_n 3, 1) := by decide +kernel
theorem dX0_readStep_14 : decode cX0_readStep 14 = .ok (.invokestatic 81, 3) := by decide +kernel
theorem dX0_readStep_17 : decode cX0_readStep 17 = .ok (.ifCond .ne 8, 3) := by decide +kernel
theorem dX0_readStep_20 : decode cX0_readStep 20 = .ok (.aload_n 1, 1) := by decide +kernel
theorem dX0_readStep_21 : decode cX0_readStep 21 = .ok (.invokevirtual 69, 3) := by decide +kernel
theorem dX0_readStep_24 : decode cX0_readStep 24 = .ok (.return_, 1) := by decide +kernel
theorem dX0_readStep_25 : decode cX0_readStep 25 = .ok (.aload_n 0, 1) := by decide +kernel
theorem dX0_readStep_26 : decode cX0_readStep 26 = .ok (.getfield 40, 3) := by decide +kernel
theorem dX0_readStep_29 : decode cX0_readStep 29 = .ok (.bipush 30, 2) := by decide +kernel
theorem dX0_readStep_31 : decode cX0_readStep 31 = .ok (.if_icmp .lt 10, 3) := by decide +kernel
theorem dX0_readStep_34 : decode cX0_readStep 34 = .ok (.aload_n 1, 1) := by decide +kernel
theorem dX0_readStep_35 : decode cX0_readStep 35 = .ok (.bipush 6, 2) := by decide +kernel
theorem dX0_readStep_37 : decode cX0_readStep 37 = .ok (.invokevirtual 84, 3) := by decide +kernel
theorem dX0_readStep_40 : decode cX0_readStep 40 = .ok (.return_, 1) := by decide +kernel
theorem dX0_readStep_41 : decode cX0_readStep 41 = .ok (.iload_n 3, 1) := by decide +kernel
theorem dX0_readStep_42 : decode cX0_readStep 42 = .ok (.bipush 16, 2) := by decide +kernel
theorem dX0_readStep_44 : decode cX0_readStep 44 = .ok (.if_icmp .eq 9, 3) := by decide +kernel
theorem dX0_readStep_47 : decode cX0_readStep 47 = .ok (.iload_n 3, 1) := by decide +kernel
theorem dX0_readStep_48 : decode cX0_readStep 48 = .ok (.bipush 20, 2) := by decide +kernel
theorem dX0_readStep_50 : decode cX0_readStep 50 = .ok (.if_icmp .ne 7, 3) := by decide +kernel
theorem dX0_readStep_53 : decode cX0_readStep 53 = .ok (.iconst 1, 1) := by decide +kernel
theorem dX0_readStep_54 : decode cX0_readStep 54 = .ok (.goto 4, 3) := by decide +kernel
theorem dX0_readStep_57 : decode cX0_readStep 57 = .ok (.iconst 0, 1) := by decide +kernel
theorem dX0_readStep_58 : decode cX0_readStep 58 = .ok (.istore 4, 2) := by decide +kernel
theorem dX0_readStep_60 : decode cX0_readStep 60 = .ok (.iload 4, 2) := by decide +kernel
theorem dX0_readStep_62 : decode cX0_readStep 62 = .ok (.ifCond .eq 18, 3) := by decide +kernel
theorem dX0_readStep_65 : decode cX0_readStep 65 = .ok (.aload_n 0, 1) := by decide +kernel
theorem dX0_readStep_66 : decode cX0_readStep 66 = .ok (.getfield 44, 3) := by decide +kernel
theorem dX0_readStep_69 : decode cX0_readStep 69 = .ok (.iconst 3, 1) := by decide +kernel
theorem dX0_readStep_70 : decode cX0_readStep 70 = .ok (.if_icmp .lt 10, 3) := by decide +kernel
theorem dX0_readStep_73 : decode cX0_readStep 73 = .ok (.aload_n 1, 1) := by decide +kernel
theorem dX0_readStep_74 : decode cX0_readStep 74 = .ok (.bipush 7, 2) := by decide +kernel
theorem dX0_readStep_76 : decode cX0_readStep 76 = .ok (.invokevirtual 84, 3) := by decide +kernel
theorem dX0_readStep_79 : decode cX0_readStep 79 = .ok (.return_, 1) := by decide +kernel
theorem dX0_readStep_80 : decode cX0_readStep 80 = .ok (.aload_n 0, 1) := by decide +kernel
theorem dX0_readStep_81 : decode cX0_readStep 81 = .ok (.getfield 40, 3) := by decide +kernel
theorem dX0_readStep_84 : decode cX0_readStep 84 = .ok (.istore 5, 2) := by decide +kernel
theorem dX0_readStep_86 : decode cX0_readStep 86 = .ok (.aload_n 0, 1) := by decide +kernel
theorem dX0_readStep_87 : decode cX0_readStep 87 = .ok (.dup, 1) := by decide +kernel
theorem dX0_readStep_88 : decode cX0_readStep 88 = .ok (.getfield 40, 3) := by decide +kernel
theorem dX0_readStep_91 : decode cX0_readStep 91 = .ok (.iconst 1, 1) := by decide +kernel
theorem dX0_readStep_92 : decode cX0_readStep 92 = .ok (.iadd, 1) := by decide +kernel
theorem dX0_readStep_93 : decode cX0_readStep 93 = .ok (.putfield 40, 3) := by decide +kernel
theorem dX0_readStep_96 : decode cX0_readStep 96 = .ok (.aload_n 0, 1) := by decide +kernel
theorem dX0_readStep_97 : decode cX0_readStep 97 = .ok (.getfield 9, 3) := by decide +kernel
theorem dX0_readStep_100 : decode cX0_readStep 100 = .ok (.iload 5, 2) := by decide +kernel
theorem dX0_readStep_102 : decode cX0_readStep 102 = .ok (.iload_n 3, 1) := by decide +kernel
theorem dX0_readStep_103 : decode cX0_readStep 103 = .ok (.iastore, 1) := by decide +kernel
theorem dX0_readStep_104 : decode cX0_readStep 104 = .ok (.aload_n 0, 1) := by decide +kernel
theorem dX0_readStep_105 : decode cX0_readStep 105 = .ok (.getfield 24, 3) := by decide +kernel
theorem dX0_readStep_108 : decode cX0_readStep 108 = .ok (.iload 5, 2) := by decide +kernel
theorem dX0_readStep_110 : decode cX0_readStep 110 = .ok (.aload_n 0, 1) := by decide +kernel
theorem dX0_readStep_111 : decode cX0_readStep 111 = .ok (.getfield 40, 3) := by decide +kernel
theorem dX0_readStep_114 : decode cX0_readStep 114 = .ok (.iastore, 1) := by decide +kernel
theorem dX0_readStep_115 : decode cX0_readStep 115 = .ok (.iload 4, 2) := by decide +kernel
theorem dX0_readStep_117 : decode cX0_readStep 117 = .ok (.ifCond .eq 24, 3) := by decide +kernel
theorem dX0_readStep_120 : decode cX0_readStep 120 = .ok (.aload_n 0, 1) := by decide +kernel
theorem dX0_readStep_121 : decode cX0_readStep 121 = .ok (.getfield 27, 3) := by decide +kernel
theorem dX0_readStep_124 : decode cX0_readStep 124 = .ok (.aload_n 0, 1) := by decide +kernel
theorem dX0_readStep_125 : decode cX0_readStep 125 = .ok (.getfield 44, 3) := by decide +kernel
theorem dX0_readStep_128 : decode cX0_readStep 128 = .ok (.iload 5, 2) := by decide +kernel
theorem dX0_readStep_130 : decode cX0_readStep 130 = .ok (.iastore, 1) := by decide +kernel
theorem dX0_readStep_131 : decode cX0_readStep 131 = .ok (.aload_n 0, 1) := by decide +kernel
theorem dX0_readStep_132 : decode cX0_readStep 132 = .ok (.dup, 1) := by decide +kernel
theorem dX0_readStep_133 : decode cX0_readStep 133 = .ok (.getfield 44, 3) := by decide +kernel
theorem dX0_readStep_136 : decode cX0_readStep 136 = .ok (.iconst 1, 1) := by decide +kernel
theorem dX0_readStep_137 : decode cX0_readStep 137 = .ok (.iadd, 1) := by decide +kernel
theorem dX0_readStep_138 : decode cX0_readStep 138 = .ok (.putfield 44, 3) := by decide +kernel
theorem dX0_readStep_141 : decode cX0_readStep 141 = .ok (.aload_n 1, 1) := by decide +kernel
theorem dX0_readStep_142 : decode cX0_readStep 142 = .ok (.invokevirtual 72, 3) := by decide +kernel
theorem dX0_readStep_145 : decode cX0_readStep 145 = .ok (.iload_n 3, 1) := by decide +kernel
theorem dX0_readStep_146 : decode cX0_readStep 146 = .ok (.bipush 16, 2) := by decide +kernel
theorem dX0_readStep_148 : decode cX0_readStep 148 = .ok (.if_icmp .ne 14, 3) := by decide +kernel
theorem dX0_readStep_151 : decode cX0_readStep 151 = .ok (.aload_n 0, 1) := by decide +kernel
theorem dX0_readStep_152 : decode cX0_readStep 152 = .ok (.aload_n 1, 1) := by decide +kernel
theorem dX0_readStep_153 : decode cX0_readStep 153 = .ok (.aload_n 2, 1) := by decide +kernel
theorem dX0_readStep_154 : decode cX0_readStep 154 = .ok (.iload 5, 2) := by decide +kernel
theorem dX0_readStep_156 : decode cX0_readStep 156 = .ok (.invokevirtual 88, 3) := by decide +kernel
theorem dX0_readStep_159 : decode cX0_readStep 159 = .ok (.goto 11, 3) := by decide +kernel
theorem dX0_readStep_162 : decode cX0_readStep 162 = .ok (.aload_n 0, 1) := by decide +kernel
theorem dX0_readStep_163 : decode cX0_readStep 163 = .ok (.aload_n 1, 1) := by decide +kernel
theorem dX0_readStep_164 : decode cX0_readStep 164 = .ok (.aload_n 2, 1) := by decide +kernel
theorem dX0_readStep_165 : decode cX0_readStep 165 = .ok (.iload 5, 2) := by decide +kernel
theorem dX0_readStep_167 : decode cX0_readStep 167 = .ok (.invokevirtual 92, 3) := by decide +kernel
theorem dX0_readStep_170 : decode cX0_readStep 170 = .ok (.return_, 1) := by decide +kernel
theorem dX0_isStepWord_0 : decode cX0_isStepWord 0 = .ok (.iload_n 0, 1) := by decide +kernel
theorem dX0_isStepWord_1 : decode cX0_isStepWord 1 = .ok (.bipush 11, 2) := by decide +kernel
theorem dX0_isStepWord_3 : decode cX0_isStepWord 3 = .ok (.if_icmp .lt 9, 3) := by decide +kernel
theorem dX0_isStepWord_6 : decode cX0_isStepWord 6 = .ok (.iload_n 0, 1) := by decide +kernel
theorem dX0_isStepWord_7 : decode cX0_isStepWord 7 = .ok (.bipush 16, 2) := by decide +kernel
theorem dX0_isStepWord_9 : decode cX0_isStepWord 9 = .ok (.if_icmp .le 15, 3) := by decide +kernel
theorem dX0_isStepWord_12 : decode cX0_isStepWord 12 = .ok (.iload_n 0, 1) := by decide +kernel
theorem dX0_isStepWord_13 : decode cX0_isStepWord 13 = .ok (.bipush 20, 2) := by decide +kernel
theorem dX0_isStepWord_15 : decode cX0_isStepWord 15 = .ok (.if_icmp .eq 9, 3) := by decide +kernel
theorem dX0_isStepWord_18 : decode cX0_isStepWord 18 = .ok (.iload_n 0, 1) := by decide +kernel
theorem dX0_isStepWord_19 : decode cX0_isStepWord 19 = .ok (.bipush 22, 2) := by decide +kernel
theorem dX0_isStepWord_21 : decode cX0_isStepWord 21 = .ok (.if_icmp .ne 7, 3) := by decide +kernel
theorem dX0_isStepWord_24 : decode cX0_isStepWord 24 = .ok (.iconst 1, 1) := by decide +kernel
theorem dX0_isStepWord_25 : decode cX0_isStepWord 25 = .ok (.goto 4, 3) := by decide +kernel
theorem dX0_isStepWord_28 : decode cX0_isStepWord 28 = .ok (.iconst 0, 1) := by decide +kernel
theorem dX0_isStepWord_29 : decode cX0_isStepWord 29 = .ok (.ireturn, 1) := by decide +kernel
theorem dX0_readDeed_0 : decode cX0_readDeed 0 = .ok (.aload_n 0, 1) := by decide +kernel
theorem dX0_readDeed_1 : decode cX0_readDeed 1 = .ok (.getfield 9, 3) := by decide +kernel
theorem dX0_readDeed_4 : decode cX0_readDeed 4 = .ok (.iload_n 3, 1) := by decide +kernel
theorem dX0_readDeed_5 : decode cX0_readDeed 5 = .ok (.iaload, 1) := by decide +kernel
theorem dX0_readDeed_6 : decode cX0_readDeed 6 = .ok (.istore 4, 2) := by decide +kernel
theorem dX0_readDeed_8 : decode cX0_readDeed 8 = .ok (.iload 4, 2) := by decide +kernel
theorem dX0_readDeed_10 : decode cX0_readDeed 10 = .ok (.bipush 22, 2) := by decide +kernel
theorem dX0_readDeed_12 : decode cX0_readDeed 12 = .ok (.if_icmp .ne 4, 3) := by decide +kernel
theorem dX0_readDeed_15 : decode cX0_readDeed 15 = .ok (.return_, 1) := by decide +kernel
theorem dX0_readDeed_16 : decode cX0_readDeed 16 = .ok (.iload 4, 2) := by decide +kernel
theorem dX0_readDeed_18 : decode cX0_readDeed 18 = .ok (.bipush 20, 2) := by decide +kernel
theorem dX0_readDeed_20 : decode cX0_readDeed 20 = .ok (.if_icmp .ne 17, 3) := by decide +kernel
theorem dX0_readDeed_23 : decode cX0_readDeed 23 = .ok (.aload_n 0, 1) := by decide +kernel
theorem dX0_readDeed_24 : decode cX0_readDeed 24 = .ok (.getfield 18, 3) := by decide +kernel
theorem dX0_readDeed_27 : decode cX0_readDeed 27 = .ok (.iload_n 3, 1) := by decide +kernel
theorem dX0_readDeed_28 : decode cX0_readDeed 28 = .ok (.aload_n 1, 1) := by decide +kernel
theorem dX0_readDeed_29 : decode cX0_readDeed 29 = .ok (.iconst 1, 1) := by decide +kernel
theorem dX0_readDeed_30 : decode cX0_readDeed 30 = .ok (.bipush 99, 2) := by decide +kernel
theorem dX0_readDeed_32 : decode cX0_readDeed 32 = .ok (.invokevirtual 95, 3) := by decide +kernel
theorem dX0_readDeed_35 : decode cX0_readDeed 35 = .ok (.iastore, 1) := by decide +kernel
theorem dX0_readDeed_36 : decode cX0_readDeed 36 = .ok (.return_, 1) := by decide +kernel
theorem dX0_readDeed_37 : decode cX0_readDeed 37 = .ok (.aload_n 0, 1) := by decide +kernel
theorem dX0_readDeed_38 : decode cX0_readDeed 38 = .ok (.getfield 15, 3) := by decide +kernel
theorem dX0_readDeed_41 : decode cX0_readDeed 41 = .ok (.iload_n 3, 1) := by decide +kernel
theorem dX0_readDeed_42 : decode cX0_readDeed 42 = .ok (.aload_n 1, 1) := by decide +kernel
theorem dX0_readDeed_43 : decode cX0_readDeed 43 = .ok (.aload_n 2, 1) := by decide +kernel
theorem dX0_readDeed_44 : decode cX0_readDeed 44 = .ok (.aload_n 1, 1) := by decide +kernel
theorem dX0_readDeed_45 : decode cX0_readDeed 45 = .ok (.invokevirtual 99, 3) := by decide +kernel
theorem dX0_readDeed_48 : decode cX0_readDeed 48 = .ok (.invokevirtual 103, 3) := by decide +kernel
theorem dX0_readDeed_51 : decode cX0_readDeed 51 = .ok (.invokevirtual 109, 3) := by decide +kernel
theorem dX0_readDeed_54 : decode cX0_readDeed 54 = .ok (.iastore, 1) := by decide +kernel
theorem dX0_readDeed_55 : decode cX0_readDeed 55 = .ok (.iload 4, 2) := by decide +kernel
theorem dX0_readDeed_57 : decode cX0_readDeed 57 = .ok (.bipush 11, 2) := by decide +kernel
theorem dX0_readDeed_59 : decode cX0_readDeed 59 = .ok (.if_icmp .ne 24, 3) := by decide +kernel
theorem dX0_readDeed_62 : decode cX0_readDeed 62 = .ok (.aload_n 0, 1) := by decide +kernel
theorem dX0_readDeed_63 : decode cX0_readDeed 63 = .ok (.getfield 18, 3) := by decide +kernel
theorem dX0_readDeed_66 : decode cX0_readDeed 66 = .ok (.iload_n 3, 1) := by decide +kernel
theorem dX0_readDeed_67 : decode cX0_readDeed 67 = .ok (.aload_n 1, 1) := by decide +kernel
theorem dX0_readDeed_68 : decode cX0_readDeed 68 = .ok (.aload_n 2, 1) := by decide +kernel
theorem dX0_readDeed_69 : decode cX0_readDeed 69 = .ok (.aload_n 1, 1) := by decide +kernel
theorem dX0_readDeed_70 : decode cX0_readDeed 70 = .ok (.invokevirtual 99, 3) := by decide +kernel
theorem dX0_readDeed_73 : decode cX0_readDeed 73 = .ok (.invokevirtual 113, 3) := by decide +kernel
theorem dX0_readDeed_76 : decode cX0_readDeed 76 = .ok (.invokevirtual 109, 3) := by decide +kernel
theorem dX0_readDeed_79 : decode cX0_readDeed 79 = .ok (.iastore, 1) := by decide +kernel
theorem dX0_readDeed_80 : decode cX0_readDeed 80 = .ok (.goto 53, 3) := by decide +kernel
theorem dX0_readDeed_83 : decode cX0_readDeed 83 = .ok (.iload 4, 2) := by decide +kernel
theorem dX0_readDeed_85 : decode cX0_readDeed 85 = .ok (.bipush 12, 2) := by decide +kernel
theorem dX0_readDeed_87 : decode cX0_readDeed 87 = .ok (.if_icmp .ne 19, 3) := by decide +kernel
theorem dX0_readDeed_90 : decode cX0_readDeed 90 = .ok (.aload_n 0, 1) := by decide +kernel
theorem dX0_readDeed_91 : decode cX0_readDeed 91 = .ok (.getfield 18, 3) := by decide +kernel
theorem dX0_readDeed_94 : decode cX0_readDeed 94 = .ok (.iload_n 3, 1) := by decide +kernel
theorem dX0_readDeed_95 : decode cX0_readDeed 95 = .ok (.aload_n 1, 1) := by decide +kernel
theorem dX0_readDeed_96 : decode cX0_readDeed 96 = .ok (.iconst 0, 1) := by decide +kernel
theorem dX0_readDeed_97 : decode cX0_readDeed 97 = .ok (.bipush 11, 2) := by decide +kernel
theorem dX0_readDeed_99 : decode cX0_readDeed 99 = .ok (.invokevirtual 95, 3) := by decide +kernel
theorem dX0_readDeed_102 : decode cX0_readDeed 102 = .ok (.iastore, 1) := by decide +kernel
theorem dX0_readDeed_103 : decode cX0_readDeed 103 = .ok (.goto 30, 3) := by decide +kernel
theorem dX0_readDeed_106 : decode cX0_readDeed 106 = .ok (.iload 4, 2) := by decide +kernel
theorem dX0_readDeed_108 : decode cX0_readDeed 108 = .ok (.bipush 14, 2) := by decide +kernel
theorem dX0_readDeed_110 : decode cX0_readDeed 110 = .ok (.if_icmp .eq 10, 3) := by decide +kernel
theorem dX0_readDeed_113 : decode cX0_readDeed 113 = .ok (.iload 4, 2) := by decide +kernel
theorem dX0_readDeed_115 : decode cX0_readDeed 115 = .ok (.bipush 15, 2) := by decide +kernel
theorem dX0_readDeed_117 : decode cX0_readDeed 117 = .ok (.if_icmp .ne 16, 3) := by decide +kernel
theorem dX0_readDeed_120 : decode cX0_readDeed 120 = .ok (.aload_n 0, 1) := by decide +kernel
theorem dX0_readDeed_121 : decode cX0_readDeed 121 = .ok (.getfield 18, 3) := by decide +kernel
theorem dX0_readDeed_124 : decode cX0_readDeed 124 = .ok (.iload_n 3, 1) := by decide +kernel
theorem dX0_readDeed_125 : decode cX0_readDeed 125 = .ok (.aload_n 1, 1) := by decide +kernel
theorem dX0_readDeed_126 : decode cX0_readDeed 126 = .ok (.iconst 1, 1) := by decide +kernel
theorem dX0_readDeed_127 : decode cX0_readDeed 127 = .ok (.bipush 99, 2) := by decide +kernel
theorem dX0_readDeed_129 : decode cX0_readDeed 129 = .ok (.invokevirtual 95, 3) := by decide +kernel
theorem dX0_readDeed_132 : decode cX0_readDeed 132 = .ok (.iastore, 1) := by decide +kernel
theorem dX0_readDeed_133 : decode cX0_readDeed 133 = .ok (.return_, 1) := by decide +kernel
theorem dX0_readTest_0 : decode cX0_readTest 0 = .ok (.aload_n 1, 1) := by decide +kernel
theorem dX0_readTest_1 : decode cX0_readTest 1 = .ok (.bipush 17, 2) := by decide +kernel
theorem dX0_readTest_3 : decode cX0_readTest 3 = .ok (.invokevirtual 53, 3) := by decide +kernel
theorem dX0_readTest_6 : decode cX0_readTest 6 = .ok (.ifCond .ne 26, 3) := by decide +kernel
theorem dX0_readTest_9 : decode cX0_readTest 9 = .ok (.aload_n 1, 1) := by decide +kernel
theorem dX0_readTest_10 : decode cX0_readTest 10 = .ok (.bipush 18, 2) := by decide +kernel
theorem dX0_readTest_12 : decode cX0_readTest 12 = .ok (.invokevirtual 53, 3) := by decide +kernel
theorem dX0_readTest_15 : decode cX0_readTest 15 = .ok (.ifCond .ne 17, 3) := by decide +kernel
theorem dX0_readTest_18 : decode cX0_readTest 18 = .ok (.aload_n 1, 1) := by decide +kernel
theorem dX0_readTest_19 : decode cX0_readTest 19 = .ok (.bipush 19, 2) := by decide +kernel
theorem dX0_readTest_21 : decode cX0_readTest 21 = .ok (.invokevirtual 53, 3) := by decide +kernel
theorem dX0_readTest_24 : decode cX0_readTest 24 = .ok (.ifCond .ne 8, 3) := by decide +kernel
theorem dX0_readTest_27 : decode cX0_readTest 27 = .ok (.aload_n 1, 1) := by decide +kernel
theorem dX0_readTest_28 : decode cX0_readTest 28 = .ok (.invokevirtual 69, 3) := by decide +kernel
theorem dX0_readTest_31 : decode cX0_readTest 31 = .ok (.return_, 1) := by decide +kernel
theorem dX0_readTest_32 : decode cX0_readTest 32 = .ok (.aload_n 0, 1) := by decide +kernel
theorem dX0_readTest_33 : decode cX0_readTest 33 = .ok (.getfield 9, 3) := by decide +kernel
theorem dX0_readTest_36 : decode cX0_readTest 36 = .ok (.iload_n 3, 1) := by decide +kernel
theorem dX0_readTest_37 : decode cX0_readTest 37 = .ok (.aload_n 1, 1) := by decide +kernel
theorem dX0_readTest_38 : decode cX0_readTest 38 = .ok (.getfield 75, 3) := by decide +kernel
theorem dX0_readTest_41 : decode cX0_readTest 41 = .ok (.iastore, 1) := by decide +kernel
theorem dX0_readTest_42 : decode cX0_readTest 42 = .ok (.aload_n 1, 1) := by decide +kernel
theorem dX0_readTest_43 : decode cX0_readTest 43 = .ok (.invokevirtual 72, 3) := by decide +kernel
theorem dX0_readTest_46 : decode cX0_readTest 46 = .ok (.aload_n 0, 1) := by decide +kernel
theorem dX0_readTest_47 : decode cX0_readTest 47 = .ok (.getfield 15, 3) := by decide +kernel
theorem dX0_readTest_50 : decode cX0_readTest 50 = .ok (.iload_n 3, 1) := by decide +kernel
theorem dX0_readTest_51 : decode cX0_readTest 51 = .ok (.aload_n 1, 1) := by decide +kernel
theorem dX0_readTest_52 : decode cX0_readTest 52 = .ok (.aload_n 2, 1) := by decide +kernel
theorem dX0_readTest_53 : decode cX0_readTest 53 = .ok (.aload_n 1, 1) := by decide +kernel
theorem dX0_readTest_54 : decode cX0_readTest 54 = .ok (.invokevirtual 99, 3) := by decide +kernel
theorem dX0_readTest_57 : decode cX0_readTest 57 = .ok (.invokevirtual 103, 3) := by decide +kernel
theorem dX0_readTest_60 : decode cX0_readTest 60 = .ok (.invokevirtual 109, 3) := by decide +kernel
theorem dX0_readTest_63 : decode cX0_readTest 63 = .ok (.iastore, 1) := by decide +kernel
theorem dX0_readTest_64 : decode cX0_readTest 64 = .ok (.aload_n 0, 1) := by decide +kernel
theorem dX0_readTest_65 : decode cX0_readTest 65 = .ok (.getfield 9, 3) := by decide +kernel
theorem dX0_readTest_68 : decode cX0_readTest 68 = .ok (.iload_n 3, 1) := by decide +kernel
theorem dX0_readTest_69 : decode cX0_readTest 69 = .ok (.iaload, 1) := by decide +kernel
theorem dX0_readTest_70 : decode cX0_readTest 70 = .ok (.bipush 17, 2) := by decide +kernel
theorem dX0_readTest_72 : decode cX0_readTest 72 = .ok (.if_icmp .ne 29, 3) := by decide +kernel
theorem dX0_readTest_75 : decode cX0_readTest 75 = .ok (.aload_n 0, 1) := by decide +kernel
theorem dX0_readTest_76 : decode cX0_readTest 76 = .ok (.getfield 21, 3) := by decide +kernel
theorem dX0_readTest_79 : decode cX0_readTest 79 = .ok (.iload_n 3, 1) := by decide +kernel
theorem dX0_readTest_80 : decode cX0_readTest 80 = .ok (.aload_n 1, 1) := by decide +kernel
theorem dX0_readTest_81 : decode cX0_readTest 81 = .ok (.invokevirtual 116, 3) := by decide +kernel
theorem dX0_readTest_84 : decode cX0_readTest 84 = .ok (.iastore, 1) := by decide +kernel
theorem dX0_readTest_85 : decode cX0_readTest 85 = .ok (.aload_n 0, 1) := by decide +kernel
theorem dX0_readTest_86 : decode cX0_readTest 86 = .ok (.getfield 18, 3) := by decide +kernel
theorem dX0_readTest_89 : decode cX0_readTest 89 = .ok (.iload_n 3, 1) := by decide +kernel
theorem dX0_readTest_90 : decode cX0_readTest 90 = .ok (.aload_n 1, 1) := by decide +kernel
theorem dX0_readTest_91 : decode cX0_readTest 91 = .ok (.iconst 0, 1) := by decide +kernel
theorem dX0_readTest_92 : decode cX0_readTest 92 = .ok (.bipush 12, 2) := by decide +kernel
theorem dX0_readTest_94 : decode cX0_readTest 94 = .ok (.invokevirtual 95, 3) := by decide +kernel
theorem dX0_readTest_97 : decode cX0_readTest 97 = .ok (.iastore, 1) := by decide +kernel
theorem dX0_readTest_98 : decode cX0_readTest 98 = .ok (.goto 32, 3) := by decide +kernel
theorem dX0_readTest_101 : decode cX0_readTest 101 = .ok (.aload_n 0, 1) := by decide +kernel
theorem dX0_readTest_102 : decode cX0_readTest 102 = .ok (.getfield 9, 3) := by decide +kernel
theorem dX0_readTest_105 : decode cX0_readTest 105 = .ok (.iload_n 3, 1) := by decide +kernel
theorem dX0_readTest_106 : decode cX0_readTest 106 = .ok (.iaload, 1) := by decide +kernel
theorem dX0_readTest_107 : decode cX0_readTest 107 = .ok (.bipush 19, 2) := by decide +kernel
theorem dX0_readTest_109 : decode cX0_readTest 109 = .ok (.if_icmp .ne 21, 3) := by decide +kernel
theorem dX0_readTest_112 : decode cX0_readTest 112 = .ok (.aload_n 0, 1) := by decide +kernel
theorem dX0_readTest_113 : decode cX0_readTest 113 = .ok (.getfield 18, 3) := by decide +kernel
theorem dX0_readTest_116 : decode cX0_readTest 116 = .ok (.iload_n 3, 1) := by decide +kernel
theorem dX0_readTest_117 : decode cX0_readTest 117 = .ok (.aload_n 1, 1) := by decide +kernel
theorem dX0_readTest_118 : decode cX0_readTest 118 = .ok (.aload_n 2, 1) := by decide +kernel
theorem dX0_readTest_119 : decode cX0_readTest 119 = .ok (.aload_n 1, 1) := by decide +kernel
theorem dX0_readTest_120 : decode cX0_readTest 120 = .ok (.invokevirtual 99, 3) := by decide +kernel
theorem dX0_readTest_123 : decode cX0_readTest 123 = .ok (.invokevirtual 113, 3) := by decide +kernel
theorem dX0_readTest_126 : decode cX0_readTest 126 = .ok (.invokevirtual 109, 3) := by decide +kernel
theorem dX0_readTest_129 : decode cX0_readTest 129 = .ok (.iastore, 1) := by decide +kernel
theorem dX0_readTest_130 : decode cX0_readTest 130 = .ok (.return_, 1) := by decide +kernel
theorem dX1_init_0 : decode cX1_init 0 = .ok (.aload_n 0, 1) := by decide +kernel
theorem dX1_init_1 : decode cX1_init 1 = .ok (.invokespecial 3, 3) := by decide +kernel
theorem dX1_init_4 : decode cX1_init 4 = .ok (.aload_n 0, 1) := by decide +kernel
theorem dX1_init_5 : decode cX1_init 5 = .ok (.bipush 12, 2) := by decide +kernel
theorem dX1_init_7 : decode cX1_init 7 = .ok (.newarray .int, 2) := by decide +kernel
theorem dX1_init_9 : decode cX1_init 9 = .ok (.putfield 9, 3) := by decide +kernel
theorem dX1_init_12 : decode cX1_init 12 = .ok (.return_, 1) := by decide +kernel
theorem dX1_begin_0 : decode cX1_begin 0 = .ok (.aload_n 0, 1) := by decide +kernel
theorem dX1_begin_1 : decode cX1_begin 1 = .ok (.lload_n 1, 1) := by decide +kernel
theorem dX1_begin_2 : decode cX1_begin 2 = .ok (.putfield 15, 3) := by decide +kernel
theorem dX1_begin_5 : decode cX1_begin 5 = .ok (.aload_n 0, 1) := by decide +kernel
theorem dX1_begin_6 : decode cX1_begin 6 = .ok (.iconst 0, 1) := by decide +kernel
theorem dX1_begin_7 : decode cX1_begin 7 = .ok (.putfield 19, 3) := by decide +kernel
theorem dX1_begin_10 : decode cX1_begin 10 = .ok (.aload_n 0, 1) := by decide +kernel
theorem dX1_begin_11 : decode cX1_begin 11 = .ok (.iconst 0, 1) := by decide +kernel
theorem dX1_begin_12 : decode cX1_begin 12 = .ok (.putfield 23, 3) := by decide +kernel
theorem dX1_begin_15 : decode cX1_begin 15 = .ok (.aload_n 0, 1) := by decide +kernel
theorem dX1_begin_16 : decode cX1_begin 16 = .ok (.iconst 0, 1) := by decide +kernel
theorem dX1_begin_17 : decode cX1_begin 17 = .ok (.putfield 26, 3) := by decide +kernel
theorem dX1_begin_20 : decode cX1_begin 20 = .ok (.return_, 1) := by decide +kernel
theorem dX1_copyFrom_0 : decode cX1_copyFrom 0 = .ok (.aload_n 0, 1) := by decide +kernel
theorem dX1_copyFrom_1 : decode cX1_copyFrom 1 = .ok (.aload_n 1, 1) := by decide +kernel
theorem dX1_copyFrom_2 : decode cX1_copyFrom 2 = .ok (.getfield 15, 3) := by decide +kernel
theorem dX1_copyFrom_5 : decode cX1_copyFrom 5 = .ok (.putfield 15, 3) := by decide +kernel
theorem dX1_copyFrom_8 : decode cX1_copyFrom 8 = .ok (.aload_n 0, 1) := by decide +kernel
theorem dX1_copyFrom_9 : decode cX1_copyFrom 9 = .ok (.aload_n 1, 1) := by decide +kernel
theorem dX1_copyFrom_10 : decode cX1_copyFrom 10 = .ok (.getfield 29, 3) := by decide +kernel
theorem dX1_copyFrom_13 : decode cX1_copyFrom 13 = .ok (.putfield 29, 3) := by decide +kernel
theorem dX1_copyFrom_16 : decode cX1_copyFrom 16 = .ok (.aload_n 0, 1) := by decide +kernel
theorem dX1_copyFrom_17 : decode cX1_copyFrom 17 = .ok (.aload_n 1, 1) := by decide +kernel
theorem dX1_copyFrom_18 : decode cX1_copyFrom 18 = .ok (.getfield 32, 3) := by decide +kernel
theorem dX1_copyFrom_21 : decode cX1_copyFrom 21 = .ok (.putfield 32, 3) := by decide +kernel
theorem dX1_copyFrom_24 : decode cX1_copyFrom 24 = .ok (.aload_n 0, 1) := by decide +kernel
theorem dX1_copyFrom_25 : decode cX1_copyFrom 25 = .ok (.aload_n 1, 1) := by decide +kernel
theorem dX1_copyFrom_26 : decode cX1_copyFrom 26 = .ok (.getfield 19, 3) := by decide +kernel
theorem dX1_copyFrom_29 : decode cX1_copyFrom 29 = .ok (.putfield 19, 3) := by decide +kernel
theorem dX1_copyFrom_32 : decode cX1_copyFrom 32 = .ok (.aload_n 0, 1) := by decide +kernel
theorem dX1_copyFrom_33 : decode cX1_copyFrom 33 = .ok (.aload_n 1, 1) := by decide +kernel
theorem dX1_copyFrom_34 : decode cX1_copyFrom 34 = .ok (.getfield 23, 3) := by decide +kernel
theorem dX1_copyFrom_37 : decode cX1_copyFrom 37 = .ok (.putfield 23, 3) := by decide +kernel
theorem dX1_copyFrom_40 : decode cX1_copyFrom 40 = .ok (.aload_n 0, 1) := by decide +kernel
theorem dX1_copyFrom_41 : decode cX1_copyFrom 41 = .ok (.aload_n 1, 1) := by decide +kernel
theorem dX1_copyFrom_42 : decode cX1_copyFrom 42 = .ok (.getfield 26, 3) := by decide +kernel
theorem dX1_copyFrom_45 : decode cX1_copyFrom 45 = .ok (.putfield 26, 3) := by decide +kernel
theorem dX1_copyFrom_48 : decode cX1_copyFrom 48 = .ok (.aload_n 1, 1) := by decide +kernel
theorem dX1_copyFrom_49 : decode cX1_copyFrom 49 = .ok (.getfield 9, 3) := by decide +kernel
theorem dX1_copyFrom_52 : decode cX1_copyFrom 52 = .ok (.iconst 0, 1) := by decide +kernel
theorem dX1_copyFrom_53 : decode cX1_copyFrom 53 = .ok (.aload_n 0, 1) := by decide +kernel
theorem dX1_copyFrom_54 : decode cX1_copyFrom 54 = .ok (.getfield 9, 3) := by decide +kernel
theorem dX1_copyFrom_57 : decode cX1_copyFrom 57 = .ok (.iconst 0, 1) := by decide +kernel
theorem dX1_copyFrom_58 : decode cX1_copyFrom 58 = .ok (.bipush 12, 2) := by decide +kernel
theorem dX1_copyFrom_60 : decode cX1_copyFrom 60 = .ok (.invokestatic 35, 3) := by decide +kernel
theorem dX1_copyFrom_63 : decode cX1_copyFrom 63 = .ok (.return_, 1) := by decide +kernel
theorem dX1_hasPlace_0 : decode cX1_hasPlace 0 = .ok (.iload_n 1, 1) := by decide +kernel
theorem dX1_hasPlace_1 : decode cX1_hasPlace 1 = .ok (.ifCond .lt 15, 3) := by decide +kernel
theorem dX1_hasPlace_4 : decode cX1_hasPlace 4 = .ok (.iload_n 1, 1) := by decide +kernel
theorem dX1_hasPlace_5 : decode cX1_hasPlace 5 = .ok (.aload_n 0, 1) := by decide +kernel
theorem dX1_hasPlace_6 : decode cX1_hasPlace 6 = .ok (.getfield 26, 3) := by decide +kernel
theorem dX1_hasPlace_9 : decode cX1_hasPlace 9 = .ok (.if_icmp .ge 7, 3) := by decide +kernel
theorem dX1_hasPlace_12 : decode cX1_hasPlace 12 = .ok (.iconst 1, 1) := by decide +kernel
theorem dX1_hasPlace_13 : decode cX1_hasPlace 13 = .ok (.goto 4, 3) := by decide +kernel
theorem dX1_hasPlace_16 : decode cX1_hasPlace 16 = .ok (.iconst 0, 1) := by decide +kernel
theorem dX1_hasPlace_17 : decode cX1_hasPlace 17 = .ok (.ireturn, 1) := by decide +kernel
theorem dX1_earn_0 : decode cX1_earn 0 = .ok (.aload_n 0, 1) := by decide +kernel
theorem dX1_earn_1 : decode cX1_earn 1 = .ok (.getfield 32, 3) := by decide +kernel
theorem dX1_earn_4 : decode cX1_earn 4 = .ok (.iload_n 1, 1) := by decide +kernel
theorem dX1_earn_5 : decode cX1_earn 5 = .ok (.iadd, 1) := by decide +kernel
theorem dX1_earn_6 : decode cX1_earn 6 = .ok (.sipush 9999, 3) := by decide +kernel
theorem dX1_earn_9 : decode cX1_earn 9 = .ok (.if_icmp .le 5, 3) := by decide +kernel
theorem dX1_earn_12 : decode cX1_earn 12 = .ok (.iconst 0, 1) := by decide +kernel
theorem dX1_earn_13 : decode cX1_earn 13 = .ok (.ireturn, 1) := by decide +kernel
theorem dX1_earn_14 : decode cX1_earn 14 = .ok (.aload_n 0, 1) := by decide +kernel
theorem dX1_earn_15 : decode cX1_earn 15 = .ok (.dup, 1) := by decide +kernel
theorem dX1_earn_16 : decode cX1_earn 16 = .ok (.getfield 32, 3) := by decide +kernel
theorem dX1_earn_19 : decode cX1_earn 19 = .ok (.iload_n 1, 1) := by decide +kernel
theorem dX1_earn_20 : decode cX1_earn 20 = .ok (.iadd, 1) := by decide +kernel
theorem dX1_earn_21 : decode cX1_earn 21 = .ok (.putfield 32, 3) := by decide +kernel
theorem dX1_earn_24 : decode cX1_earn 24 = .ok (.iconst 1, 1) := by decide +kernel
theorem dX1_earn_25 : decode cX1_earn 25 = .ok (.ireturn, 1) := by decide +kernel
theorem dX1_forget_0 : decode cX1_forget 0 = .ok (.aload_n 0, 1) := by decide +kernel
theorem dX1_forget_1 : decode cX1_forget 1 = .ok (.getfield 9, 3) := by decide +kernel
theorem dX1_forget_4 : decode cX1_forget 4 = .ok (.iload_n 1, 1) := by decide +kernel
theorem dX1_forget_5 : decode cX1_forget 5 = .ok (.iaload, 1) := by decide +kernel
theorem dX1_forget_6 : decode cX1_forget 6 = .ok (.istore_n 2, 1) := by decide +kernel
theorem dX1_forget_7 : decode cX1_forget 7 = .ok (.aload_n 0, 1) := by decide +kernel
theorem dX1_forget_8 : decode cX1_forget 8 = .ok (.dup, 1) := by decide +kernel
theorem dX1_forget_9 : decode cX1_forget 9 = .ok (.getfield 26, 3) := by decide +kernel
theorem dX1_forget_12 : decode cX1_forget 12 = .ok (.iconst 1, 1) := by decide +kernel
theorem dX1_forget_13 : decode cX1_forget 13 = .ok (.isub, 1) := by decide +kernel
theorem dX1_forget_14 : decode cX1_forget 14 = .ok (.putfield 26, 3) := by decide +kernel
theorem dX1_forget_17 : decode cX1_forget 17 = .ok (.iload_n 1, 1) := by decide +kernel
theorem dX1_forget_18 : decode cX1_forget 18 = .ok (.istore_n 3, 1) := by decide +kernel
theorem dX1_forget_19 : decode cX1_forget 19 = .ok (.iload_n 3, 1) := by decide +kernel
theorem dX1_forget_20 : decode cX1_forget 20 = .ok (.aload_n 0, 1) := by decide +kernel
theorem dX1_forget_21 : decode cX1_forget 21 = .ok (.getfield 26, 3) := by decide +kernel
theorem dX1_forget_24 : decode cX1_forget 24 = .ok (.if_icmp .ge 23, 3) := by decide +kernel
theorem dX1_forget_27 : decode cX1_forget 27 = .ok (.aload_n 0, 1) := by decide +kernel
theorem dX1_forget_28 : decode cX1_forget 28 = .ok (.getfield 9, 3) := by decide +kernel
theorem dX1_forget_31 : decode cX1_forget 31 = .ok (.iload_n 3, 1) := by decide +kernel
theorem dX1_forget_32 : decode cX1_forget 32 = .ok (.aload_n 0, 1) := by decide +kernel
theorem dX1_forget_33 : decode cX1_forget 33 = .ok (.getfield 9, 3) := by decide +kernel
theorem dX1_forget_36 : decode cX1_forget 36 = .ok (.iload_n 3, 1) := by decide +kernel
theorem dX1_forget_37 : decode cX1_forget 37 = .ok (.iconst 1, 1) := by decide +kernel
theorem dX1_forget_38 : decode cX1_forget 38 = .ok (.iadd, 1) := by decide +kernel
theorem dX1_forget_39 : decode cX1_forget 39 = .ok (.iaload, 1) := by decide +kernel
theorem dX1_forget_40 : decode cX1_forget 40 = .ok (.iastore, 1) := by decide +kernel
theorem dX1_forget_41 : decode cX1_forget 41 = .ok (.iinc 3 1, 3) := by decide +kernel
theorem dX1_forget_44 : decode cX1_forget 44 = .ok (.goto (-25), 3) := by decide +kernel
theorem dX1_forget_47 : decode cX1_forget 47 = .ok (.aload_n 0, 1) := by decide +kernel
theorem dX1_forget_48 : decode cX1_forget 48 = .ok (.dup, 1) := by decide +kernel
theorem dX1_forget_49 : decode cX1_forget 49 = .ok (.getfield 23, 3) := by decide +kernel
theorem dX1_forget_52 : decode cX1_forget 52 = .ok (.iconst 1, 1) := by decide +kernel
theorem dX1_forget_53 : decode cX1_forget 53 = .ok (.iload_n 2, 1) := by decide +kernel
theorem dX1_forget_54 : decode cX1_forget 54 = .ok (.ishl, 1) := by decide +kernel
theorem dX1_forget_55 : decode cX1_forget 55 = .ok (.iconst (-1), 1) := by decide +kernel
theorem dX1_forget_56 : decode cX1_forget 56 = .ok (.ixor, 1) := by decide +kernel
theorem dX1_forget_57 : decode cX1_forget 57 = .ok (.iand, 1) := by decide +kernel
theorem dX1_forget_58 : decode cX1_forget 58 = .ok (.putfield 23, 3) := by decide +kernel
theorem dX1_forget_61 : decode cX1_forget 61 = .ok (.iload_n 2, 1) := by decide +kernel
theorem dX1_forget_62 : decode cX1_forget 62 = .ok (.ireturn, 1) := by decide +kernel
theorem dX2_init_0 : decode cX2_init 0 = .ok (.aload_n 0, 1) := by decide +kernel
theorem dX2_init_1 : decode cX2_init 1 = .ok (.invokespecial 1, 3) := by decide +kernel
theorem dX2_init_4 : decode cX2_init 4 = .ok (.return_, 1) := by decide +kernel
theorem dX2_give_0 : decode cX2_give 0 = .ok (.aload_n 0, 1) := by decide +kernel
theorem dX2_give_1 : decode cX2_give 1 = .ok (.iload_n 1, 1) := by decide +kernel
theorem dX2_give_2 : decode cX2_give 2 = .ok (.putfield 7, 3) := by decide +kernel
theorem dX2_give_5 : decode cX2_give 5 = .ok (.aload_n 0, 1) := by decide +kernel
theorem dX2_give_6 : decode cX2_give 6 = .ok (.aload_n 0, 1) := by decide +kernel
theorem dX2_give_7 : decode cX2_give 7 = .ok (.getfield 7, 3) := by decide +kernel
theorem dX2_give_10 : decode cX2_give 10 = .ok (.iconst 1, 1) := by decide +kernel
theorem dX2_give_11 : decode cX2_give 11 = .ok (.if_icmp .eq 38, 3) := by decide +kernel
theorem dX2_give_14 : decode cX2_give 14 = .ok (.aload_n 0, 1) := by decide +kernel
theorem dX2_give_15 : decode cX2_give 15 = .ok (.getfield 7, 3) := by decide +kernel
theorem dX2_give_18 : decode cX2_give 18 = .ok (.iconst 5, 1) := by decide +kernel
theorem dX2_give_19 : decode cX2_give 19 = .ok (.if_icmp .eq 30, 3) := by decide +kernel
theorem dX2_give_22 : decode cX2_give 22 = .ok (.aload_n 0, 1) := by decide +kernel
theorem dX2_give_23 : decode cX2_give 23 = .ok (.getfield 7, 3) := by decide +kernel
theorem dX2_give_26 : decode cX2_give 26 = .ok (.bipush 9, 2) := by decide +kernel
theorem dX2_give_28 : decode cX2_give 28 = .ok (.if_icmp .eq 21, 3) := by decide +kernel
theorem dX2_give_31 : decode cX2_give 31 = .ok (.aload_n 0, 1) := by decide +kernel
theorem dX2_give_32 : decode cX2_give 32 = .ok (.getfield 7, 3) := by decide +kernel
theorem dX2_give_35 : decode cX2_give 35 = .ok (.bipush 15, 2) := by decide +kernel
theorem dX2_give_37 : decode cX2_give 37 = .ok (.if_icmp .eq 12, 3) := by decide +kernel
theorem dX2_give_40 : decode cX2_give 40 = .ok (.aload_n 0, 1) := by decide +kernel
theorem dX2_give_41 : decode cX2_give 41 = .ok (.getfield 7, 3) := by decide +kernel
theorem dX2_give_44 : decode cX2_give 44 = .ok (.bipush 21, 2) := by decide +kernel
theorem dX2_give_46 : decode cX2_give 46 = .ok (.if_icmp .ne 7, 3) := by decide +kernel
theorem dX2_give_49 : decode cX2_give 49 = .ok (.iconst 1, 1) := by decide +kernel
theorem dX2_give_50 : decode cX2_give 50 = .ok (.goto 4, 3) := by decide +kernel
theorem dX2_give_53 : decode cX2_give 53 = .ok (.iconst 0, 1) := by decide +kernel
theorem dX2_give_54 : decode cX2_give 54 = .ok (.putfield 13, 3) := by decide +kernel
theorem dX2_give_57 : decode cX2_give 57 = .ok (.return_, 1) := by decide +kernel
theorem dX2_copyFrom_0 : decode cX2_copyFrom 0 = .ok (.aload_n 0, 1) := by decide +kernel
theorem dX2_copyFrom_1 : decode cX2_copyFrom 1 = .ok (.aload_n 1, 1) := by decide +kernel
theorem dX2_copyFrom_2 : decode cX2_copyFrom 2 = .ok (.getfield 17, 3) := by decide +kernel
theorem dX2_copyFrom_5 : decode cX2_copyFrom 5 = .ok (.putfield 17, 3) := by decide +kernel
theorem dX2_copyFrom_8 : decode cX2_copyFrom 8 = .ok (.aload_n 0, 1) := by decide +kernel
theorem dX2_copyFrom_9 : decode cX2_copyFrom 9 = .ok (.aload_n 1, 1) := by decide +kernel
theorem dX2_copyFrom_10 : decode cX2_copyFrom 10 = .ok (.getfield 7, 3) := by decide +kernel
theorem dX2_copyFrom_13 : decode cX2_copyFrom 13 = .ok (.putfield 7, 3) := by decide +kernel
theorem dX2_copyFrom_16 : decode cX2_copyFrom 16 = .ok (.aload_n 0, 1) := by decide +kernel
theorem dX2_copyFrom_17 : decode cX2_copyFrom 17 = .ok (.aload_n 1, 1) := by decide +kernel
theorem dX2_copyFrom_18 : decode cX2_copyFrom 18 = .ok (.getfield 13, 3) := by decide +kernel
theorem dX2_copyFrom_21 : decode cX2_copyFrom 21 = .ok (.putfield 13, 3) := by decide +kernel
theorem dX2_copyFrom_24 : decode cX2_copyFrom 24 = .ok (.aload_n 0, 1) := by decide +kernel
theorem dX2_copyFrom_25 : decode cX2_copyFrom 25 = .ok (.aload_n 1, 1) := by decide +kernel
theorem dX2_copyFrom_26 : decode cX2_copyFrom 26 = .ok (.getfield 21, 3) := by decide +kernel
theorem dX2_copyFrom_29 : decode cX2_copyFrom 29 = .ok (.putfield 21, 3) := by decide +kernel
theorem dX2_copyFrom_32 : decode cX2_copyFrom 32 = .ok (.aload_n 0, 1) := by decide +kernel
theorem dX2_copyFrom_33 : decode cX2_copyFrom 33 = .ok (.aload_n 1, 1) := by decide +kernel
theorem dX2_copyFrom_34 : decode cX2_copyFrom 34 = .ok (.getfield 24, 3) := by decide +kernel
theorem dX2_copyFrom_37 : decode cX2_copyFrom 37 = .ok (.putfield 24, 3) := by decide +kernel
theorem dX2_copyFrom_40 : decode cX2_copyFrom 40 = .ok (.aload_n 0, 1) := by decide +kernel
theorem dX2_copyFrom_41 : decode cX2_copyFrom 41 = .ok (.aload_n 1, 1) := by decide +kernel
theorem dX2_copyFrom_42 : decode cX2_copyFrom 42 = .ok (.getfield 27, 3) := by decide +kernel
theorem dX2_copyFrom_45 : decode cX2_copyFrom 45 = .ok (.putfield 27, 3) := by decide +kernel
theorem dX2_copyFrom_48 : decode cX2_copyFrom 48 = .ok (.aload_n 0, 1) := by decide +kernel
theorem dX2_copyFrom_49 : decode cX2_copyFrom 49 = .ok (.aload_n 1, 1) := by decide +kernel
theorem dX2_copyFrom_50 : decode cX2_copyFrom 50 = .ok (.getfield 30, 3) := by decide +kernel
theorem dX2_copyFrom_53 : decode cX2_copyFrom 53 = .ok (.putfield 30, 3) := by decide +kernel
theorem dX2_copyFrom_56 : decode cX2_copyFrom 56 = .ok (.return_, 1) := by decide +kernel
theorem dX3_init_0 : decode cX3_init 0 = .ok (.aload_n 0, 1) := by decide +kernel
theorem dX3_init_1 : decode cX3_init 1 = .ok (.invokespecial 3, 3) := by decide +kernel
theorem dX3_init_4 : decode cX3_init 4 = .ok (.return_, 1) := by decide +kernel
theorem dX3_run_0 : decode cX3_run 0 = .ok (.aload_n 0, 1) := by decide +kernel
theorem dX3_run_1 : decode cX3_run 1 = .ok (.iconst 1, 1) := by decide +kernel
theorem dX3_run_2 : decode cX3_run 2 = .ok (.putfield 9, 3) := by decide +kernel
theorem dX3_run_5 : decode cX3_run 5 = .ok (.aload_n 0, 1) := by decide +kernel
theorem dX3_run_6 : decode cX3_run 6 = .ok (.iconst 0, 1) := by decide +kernel
theorem dX3_run_7 : decode cX3_run 7 = .ok (.putfield 15, 3) := by decide +kernel
theorem dX3_run_10 : decode cX3_run 10 = .ok (.aload_n 0, 1) := by decide +kernel
theorem dX3_run_11 : decode cX3_run 11 = .ok (.iconst 0, 1) := by decide +kernel
theorem dX3_run_12 : decode cX3_run 12 = .ok (.putfield 19, 3) := by decide +kernel
theorem dX3_run_15 : decode cX3_run 15 = .ok (.aload_n 0, 1) := by decide +kernel
theorem dX3_run_16 : decode cX3_run 16 = .ok (.iconst 0, 1) := by decide +kernel
theorem dX3_run_17 : decode cX3_run 17 = .ok (.putfield 22, 3) := by decide +kernel
theorem dX3_run_20 : decode cX3_run 20 = .ok (.aload_n 0, 1) := by decide +kernel
theorem dX3_run_21 : decode cX3_run 21 = .ok (.iconst 0, 1) := by decide +kernel
theorem dX3_run_22 : decode cX3_run 22 = .ok (.putfield 25, 3) := by decide +kernel
theorem dX3_run_25 : decode cX3_run 25 = .ok (.aload_n 0, 1) := by decide +kernel
theorem dX3_run_26 : decode cX3_run 26 = .ok (.iconst 0, 1) := by decide +kernel
theorem dX3_run_27 : decode cX3_run 27 = .ok (.putfield 28, 3) := by decide +kernel
theorem dX3_run_30 : decode cX3_run 30 = .ok (.aload_n 0, 1) := by decide +kernel
theorem dX3_run_31 : decode cX3_run 31 = .ok (.iconst 0, 1) := by decide +kernel
theorem dX3_run_32 : decode cX3_run 32 = .ok (.putfield 31, 3) := by decide +kernel
theorem dX3_run_35 : decode cX3_run 35 = .ok (.aload_n 0, 1) := by decide +kernel
theorem dX3_run_36 : decode cX3_run 36 = .ok (.iload_n 2, 1) := by decide +kernel
theorem dX3_run_37 : decode cX3_run 37 = .ok (.putfield 34, 3) := by decide +kernel
theorem dX3_run_40 : decode cX3_run 40 = .ok (.aload_n 0, 1) := by decide +kernel
theorem dX3_run_41 : decode cX3_run 41 = .ok (.aload_n 1, 1) := by decide +kernel
theorem dX3_run_42 : decode cX3_run 42 = .ok (.iconst 0, 1) := by decide +kernel
theorem dX3_run_43 : decode cX3_run 43 = .ok (.aload_n 1, 1) := by decide +kernel
theorem dX3_run_44 : decode cX3_run 44 = .ok (.getfield 37, 3) := by decide +kernel
theorem dX3_run_47 : decode cX3_run 47 = .ok (.getfield 43, 3) := by decide +kernel
theorem dX3_run_50 : decode cX3_run 50 = .ok (.iconst 0, 1) := by decide +kernel
theorem dX3_run_51 : decode cX3_run 51 = .ok (.invokevirtual 48, 3) := by decide +kernel
theorem dX3_run_54 : decode cX3_run 54 = .ok (.return_, 1) := by decide +kernel
theorem dX3_walk_0 : decode cX3_walk 0 = .ok (.iload 4, 2) := by decide +kernel
theorem dX3_walk_2 : decode cX3_walk 2 = .ok (.iconst 3, 1) := by decide +kernel
theorem dX3_walk_3 : decode cX3_walk 3 = .ok (.if_icmp .le 4, 3) := by decide +kernel
theorem dX3_walk_6 : decode cX3_walk 6 = .ok (.return_, 1) := by decide +kernel
theorem dX3_walk_7 : decode cX3_walk 7 = .ok (.iload_n 2, 1) := by decide +kernel
theorem dX3_walk_8 : decode cX3_walk 8 = .ok (.istore 5, 2) := by decide +kernel
theorem dX3_walk_10 : decode cX3_walk 10 = .ok (.iload 5, 2) := by decide +kernel
theorem dX3_walk_12 : decode cX3_walk 12 = .ok (.iload_n 3, 1) := by decide +kernel
theorem dX3_walk_13 : decode cX3_walk 13 = .ok (.if_icmp .ge 65, 3) := by decide +kernel
theorem dX3_walk_16 : decode cX3_walk 16 = .ok (.aload_n 0, 1) := by decide +kernel
theorem dX3_walk_17 : decode cX3_walk 17 = .ok (.getfield 31, 3) := by decide +kernel
theorem dX3_walk_20 : decode cX3_walk 20 = .ok (.ifCond .ne 58, 3) := by decide +kernel
theorem dX3_walk_23 : decode cX3_walk 23 = .ok (.aload_n 0, 1) := by decide +kernel
theorem dX3_walk_24 : decode cX3_walk 24 = .ok (.getfield 15, 3) := by decide +kernel
theorem dX3_walk_27 : decode cX3_walk 27 = .ok (.sipush 300, 3) := by decide +kernel
theorem dX3_walk_30 : decode cX3_walk 30 = .ok (.if_icmp .lt 14, 3) := by decide +kernel
theorem dX3_walk_33 : decode cX3_walk 33 = .ok (.aload_n 0, 1) := by decide +kernel
theorem dX3_walk_34 : decode cX3_walk 34 = .ok (.iconst 1, 1) := by decide +kernel
theorem dX3_walk_35 : decode cX3_walk 35 = .ok (.putfield 28, 3) := by decide +kernel
theorem dX3_walk_38 : decode cX3_walk 38 = .ok (.aload_n 0, 1) := by decide +kernel
theorem dX3_walk_39 : decode cX3_walk 39 = .ok (.iconst 1, 1) := by decide +kernel
theorem dX3_walk_40 : decode cX3_walk 40 = .ok (.putfield 31, 3) := by decide +kernel
theorem dX3_walk_43 : decode cX3_walk 43 = .ok (.return_, 1) := by decide +kernel
theorem dX3_walk_44 : decode cX3_walk 44 = .ok (.aload_n 0, 1) := by decide +kernel
theorem dX3_walk_45 : decode cX3_walk 45 = .ok (.dup, 1) := by decide +kernel
theorem dX3_walk_46 : decode cX3_walk 46 = .ok (.getfield 15, 3) := by decide +kernel
theorem dX3_walk_49 : decode cX3_walk 49 = .ok (.iconst 1, 1) := by decide +kernel
theorem dX3_walk_50 : decode cX3_walk 50 = .ok (.iadd, 1) := by decide +kernel
theorem dX3_walk_51 : decode cX3_walk 51 = .ok (.putfield 15, 3) := by decide +kernel
theorem dX3_walk_54 : decode cX3_walk 54 = .ok (.aload_n 0, 1) := by decide +kernel
theorem dX3_walk_55 : decode cX3_walk 55 = .ok (.aload_n 1, 1) := by decide +kernel
theorem dX3_walk_56 : decode cX3_walk 56 = .ok (.iload 5, 2) := by decide +kernel
theorem dX3_walk_58 : decode cX3_walk 58 = .ok (.iload 4, 2) := by decide +kernel
theorem dX3_walk_60 : decode cX3_walk 60 = .ok (.invokevirtual 52, 3) := by decide +kernel
theorem dX3_walk_63 : decode cX3_walk 63 = .ok (.aload_n 1, 1) := by decide +kernel
theorem dX3_walk_64 : decode cX3_walk 64 = .ok (.getfield 37, 3) := by decide +kernel
theorem dX3_walk_67 : decode cX3_walk 67 = .ok (.getfield 56, 3) := by decide +kernel
theorem dX3_walk_70 : decode cX3_walk 70 = .ok (.iload 5, 2) := by decide +kernel
theorem dX3_walk_72 : decode cX3_walk 72 = .ok (.iaload, 1) := by decide +kernel
theorem dX3_walk_73 : decode cX3_walk 73 = .ok (.istore 5, 2) := by decide +kernel
theorem dX3_walk_75 : decode cX3_walk 75 = .ok (.goto (-65), 3) := by decide +kernel
theorem dX3_walk_78 : decode cX3_walk 78 = .ok (.return_, 1) := by decide +kernel
theorem dX3_doStep_0 : decode cX3_doStep 0 = .ok (.aload_n 1, 1) := by decide +kernel
theorem dX3_doStep_1 : decode cX3_doStep 1 = .ok (.getfield 37, 3) := by decide +kernel
theorem dX3_doStep_4 : decode cX3_doStep 4 = .ok (.astore 4, 2) := by decide +kernel
theorem dX3_doStep_6 : decode cX3_doStep 6 = .ok (.aload_n 1, 1) := by decide +kernel
theorem dX3_doStep_7 : decode cX3_doStep 7 = .ok (.getfield 60, 3) := by decide +kernel
theorem dX3_doStep_10 : decode cX3_doStep 10 = .ok (.aload 4, 2) := by decide +kernel
theorem dX3_doStep_12 : decode cX3_doStep 12 = .ok (.getfield 64, 3) := by decide +kernel
theorem dX3_doStep_15 : decode cX3_doStep 15 = .ok (.iload_n 2, 1) := by decide +kernel
theorem dX3_doStep_16 : decode cX3_doStep 16 = .ok (.iaload, 1) := by decide +kernel
theorem dX3_doStep_17 : decode cX3_doStep 17 = .ok (.aaload, 1) := by decide +kernel
theorem dX3_doStep_18 : decode cX3_doStep 18 = .ok (.astore 5, 2) := by decide +kernel
theorem dX3_doStep_20 : decode cX3_doStep 20 = .ok (.aload 4, 2) := by decide +kernel
theorem dX3_doStep_22 : decode cX3_doStep 22 = .ok (.getfield 67, 3) := by decide +kernel
theorem dX3_doStep_25 : decode cX3_doStep 25 = .ok (.iload_n 2, 1) := by decide +kernel
theorem dX3_doStep_26 : decode cX3_doStep 26 = .ok (.iaload, 1) := by decide +kernel
theorem dX3_doStep_27 : decode cX3_doStep 27 = .ok (.istore 6, 2) := by decide +kernel
theorem dX3_doStep_29 : decode cX3_doStep 29 = .ok (.aload 4, 2) := by decide +kernel
theorem dX3_doStep_31 : decode cX3_doStep 31 = .ok (.getfield 70, 3) := by decide +kernel
theorem dX3_doStep_34 : decode cX3_doStep 34 = .ok (.iload_n 2, 1) := by decide +kernel
theorem dX3_doStep_35 : decode cX3_doStep 35 = .ok (.iaload, 1) := by decide +kernel
theorem dX3_doStep_36 : decode cX3_doStep 36 = .ok (.tableswitch 191 11 22 #[64, 76, 87, 97, 112, 191, 191, 191, 191, 139, 191, 183], 64) := by decide +kernel
theorem dX3_doStep_100 : decode cX3_doStep 100 = .ok (.aload_n 0, 1) := by decide +kernel
theorem dX3_doStep_101 : decode cX3_doStep 101 = .ok (.aload_n 1, 1) := by decide +kernel
theorem dX3_doStep_102 : decode cX3_doStep 102 = .ok (.aload 5, 2) := by decide +kernel
theorem dX3_doStep_104 : decode cX3_doStep 104 = .ok (.iload 6, 2) := by decide +kernel
theorem dX3_doStep_106 : decode cX3_doStep 106 = .ok (.invokevirtual 73, 3) := by decide +kernel
theorem dX3_doStep_109 : decode cX3_doStep 109 = .ok (.goto 146, 3) := by decide +kernel
theorem dX3_doStep_112 : decode cX3_doStep 112 = .ok (.aload_n 0, 1) := by decide +kernel
theorem dX3_doStep_113 : decode cX3_doStep 113 = .ok (.aload 5, 2) := by decide +kernel
theorem dX3_doStep_115 : decode cX3_doStep 115 = .ok (.iload 6, 2) := by decide +kernel
theorem dX3_doStep_117 : decode cX3_doStep 117 = .ok (.invokevirtual 77, 3) := by decide +kernel
theorem dX3_doStep_120 : decode cX3_doStep 120 = .ok (.goto 135, 3) := by decide +kernel
theorem dX3_doStep_123 : decode cX3_doStep 123 = .ok (.aload_n 0, 1) := by decide +kernel
theorem dX3_doStep_124 : decode cX3_doStep 124 = .ok (.aload_n 1, 1) := by decide +kernel
theorem dX3_doStep_125 : decode cX3_doStep 125 = .ok (.aload 5, 2) := by decide +kernel
theorem dX3_doStep_127 : decode cX3_doStep 127 = .ok (.invokevirtual 81, 3) := by decide +kernel
theorem dX3_doStep_130 : decode cX3_doStep 130 = .ok (.goto 125, 3) := by decide +kernel
theorem dX3_doStep_133 : decode cX3_doStep 133 = .ok (.aload 5, 2) := by decide +kernel
theorem dX3_doStep_135 : decode cX3_doStep 135 = .ok (.dup, 1) := by decide +kernel
theorem dX3_doStep_136 : decode cX3_doStep 136 = .ok (.getfield 85, 3) := by decide +kernel
theorem dX3_doStep_139 : decode cX3_doStep 139 = .ok (.iload 6, 2) := by decide +kernel
theorem dX3_doStep_141 : decode cX3_doStep 141 = .ok (.iadd, 1) := by decide +kernel
theorem dX3_doStep_142 : decode cX3_doStep 142 = .ok (.putfield 85, 3) := by decide +kernel
theorem dX3_doStep_145 : decode cX3_doStep 145 = .ok (.goto 110, 3) := by decide +kernel
theorem dX3_doStep_148 : decode cX3_doStep 148 = .ok (.aload_n 0, 1) := by decide +kernel
theorem dX3_doStep_149 : decode cX3_doStep 149 = .ok (.dup, 1) := by decide +kernel
theorem dX3_doStep_150 : decode cX3_doStep 150 = .ok (.getfield 19, 3) := by decide +kernel
theorem dX3_doStep_153 : decode cX3_doStep 153 = .ok (.aload 5, 2) := by decide +kernel
theorem dX3_doStep_155 : decode cX3_doStep 155 = .ok (.iload 6, 2) := by decide +kernel
theorem dX3_doStep_157 : decode cX3_doStep 157 = .ok (.invokevirtual 90, 3) := by decide +kernel
theorem dX3_doStep_160 : decode cX3_doStep 160 = .ok (.ifCond .eq 7, 3) := by decide +kernel
theorem dX3_doStep_163 : decode cX3_doStep 163 = .ok (.iconst 0, 1) := by decide +kernel
theorem dX3_doStep_164 : decode cX3_doStep 164 = .ok (.goto 4, 3) := by decide +kernel
theorem dX3_doStep_167 : decode cX3_doStep 167 = .ok (.iconst 1, 1) := by decide +kernel
theorem dX3_doStep_168 : decode cX3_doStep 168 = .ok (.iadd, 1) := by decide +kernel
theorem dX3_doStep_169 : decode cX3_doStep 169 = .ok (.putfield 19, 3) := by decide +kernel
theorem dX3_doStep_172 : decode cX3_doStep 172 = .ok (.goto 83, 3) := by decide +kernel
theorem dX3_doStep_175 : decode cX3_doStep 175 = .ok (.iconst 0, 1) := by decide +kernel
theorem dX3_doStep_176 : decode cX3_doStep 176 = .ok (.istore 7, 2) := by decide +kernel
theorem dX3_doStep_178 : decode cX3_doStep 178 = .ok (.iload 7, 2) := by decide +kernel
theorem dX3_doStep_180 : decode cX3_doStep 180 = .ok (.iload 6, 2) := by decide +kernel
theorem dX3_doStep_182 : decode cX3_doStep 182 = .ok (.if_icmp .ge 34, 3) := by decide +kernel
theorem dX3_doStep_185 : decode cX3_doStep 185 = .ok (.aload_n 0, 1) := by decide +kernel
theorem dX3_doStep_186 : decode cX3_doStep 186 = .ok (.getfield 31, 3) := by decide +kernel
theorem dX3_doStep_189 : decode cX3_doStep 189 = .ok (.ifCond .ne 27, 3) := by decide +kernel
theorem dX3_doStep_192 : decode cX3_doStep 192 = .ok (.aload_n 0, 1) := by decide +kernel
theorem dX3_doStep_193 : decode cX3_doStep 193 = .ok (.aload_n 1, 1) := by decide +kernel
theorem dX3_doStep_194 : decode cX3_doStep 194 = .ok (.iload_n 2, 1) := by decide +kernel
theorem dX3_doStep_195 : decode cX3_doStep 195 = .ok (.iconst 1, 1) := by decide +kernel
theorem dX3_doStep_196 : decode cX3_doStep 196 = .ok (.iadd, 1) := by decide +kernel
theorem dX3_doStep_197 : decode cX3_doStep 197 = .ok (.aload 4, 2) := by decide +kernel
theorem dX3_doStep_199 : decode cX3_doStep 199 = .ok (.getfield 56, 3) := by decide +kernel
theorem dX3_doStep_202 : decode cX3_doStep 202 = .ok (.iload_n 2, 1) := by decide +kernel
theorem dX3_doStep_203 : decode cX3_doStep 203 = .ok (.iaload, 1) := by decide +kernel
theorem dX3_doStep_204 : decode cX3_doStep 204 = .ok (.iload_n 3, 1) := by decide +kernel
theorem dX3_doStep_205 : decode cX3_doStep 205 = .ok (.iconst 1, 1) := by decide +kernel
theorem dX3_doStep_206 : decode cX3_doStep 206 = .ok (.iadd, 1) := by decide +kernel
theorem dX3_doStep_207 : decode cX3_doStep 207 = .ok (.invokevirtual 48, 3) := by decide +kernel
theorem dX3_doStep_210 : decode cX3_doStep 210 = .ok (.iinc 7 1, 3) := by decide +kernel
theorem dX3_doStep_213 : decode cX3_doStep 213 = .ok (.goto (-35), 3) := by decide +kernel
theorem dX3_doStep_216 : decode cX3_doStep 216 = .ok (.goto 39, 3) := by decide +kernel
theorem dX3_doStep_219 : decode cX3_doStep 219 = .ok (.aload_n 0, 1) := by decide +kernel
theorem dX3_doStep_220 : decode cX3_doStep 220 = .ok (.iconst 1, 1) := by decide +kernel
theorem dX3_doStep_221 : decode cX3_doStep 221 = .ok (.putfield 31, 3) := by decide +kernel
theorem dX3_doStep_224 : decode cX3_doStep 224 = .ok (.goto 31, 3) := by decide +kernel
theorem dX3_doStep_227 : decode cX3_doStep 227 = .ok (.aload_n 1, 1) := by decide +kernel
theorem dX3_doStep_228 : decode cX3_doStep 228 = .ok (.aload 5, 2) := by decide +kernel
theorem dX3_doStep_230 : decode cX3_doStep 230 = .ok (.iload_n 2, 1) := by decide +kernel
theorem dX3_doStep_231 : decode cX3_doStep 231 = .ok (.invokestatic 94, 3) := by decide +kernel
theorem dX3_doStep_234 : decode cX3_doStep 234 = .ok (.ifCond .eq 21, 3) := by decide +kernel
theorem dX3_doStep_237 : decode cX3_doStep 237 = .ok (.aload_n 0, 1) := by decide +kernel
theorem dX3_doStep_238 : decode cX3_doStep 238 = .ok (.aload_n 1, 1) := by decide +kernel
theorem dX3_doStep_239 : decode cX3_doStep 239 = .ok (.iload_n 2, 1) := by decide +kernel
theorem dX3_doStep_240 : decode cX3_doStep 240 = .ok (.iconst 1, 1) := by decide +kernel
theorem dX3_doStep_241 : decode cX3_doStep 241 = .ok (.iadd, 1) := by decide +kernel
theorem dX3_doStep_242 : decode cX3_doStep 242 = .ok (.aload 4, 2) := by decide +kernel
theorem dX3_doStep_244 : decode cX3_doStep 244 = .ok (.getfield 56, 3) := by decide +kernel
theorem dX3_doStep_247 : decode cX3_doStep 247 = .ok (.iload_n 2, 1) := by decide +kernel
theorem dX3_doStep_248 : decode cX3_doStep 248 = .ok (.iaload, 1) := by decide +kernel
theorem dX3_doStep_249 : decode cX3_doStep 249 = .ok (.iload_n 3, 1) := by decide +kernel
theorem dX3_doStep_250 : decode cX3_doStep 250 = .ok (.iconst 1, 1) := by decide +kernel
theorem dX3_doStep_251 : decode cX3_doStep 251 = .ok (.iadd, 1) := by decide +kernel
theorem dX3_doStep_252 : decode cX3_doStep 252 = .ok (.invokevirtual 48, 3) := by decide +kernel
theorem dX3_doStep_255 : decode cX3_doStep 255 = .ok (.return_, 1) := by decide +kernel
theorem dX3_holds_0 : decode cX3_holds 0 = .ok (.aload_n 0, 1) := by decide +kernel
theorem dX3_holds_1 : decode cX3_holds 1 = .ok (.getfield 37, 3) := by decide +kernel
theorem dX3_holds_4 : decode cX3_holds 4 = .ok (.getfield 67, 3) := by decide +kernel
theorem dX3_holds_7 : decode cX3_holds 7 = .ok (.iload_n 2, 1) := by decide +kernel
theorem dX3_holds_8 : decode cX3_holds 8 = .ok (.iaload, 1) := by decide +kernel
theorem dX3_holds_9 : decode cX3_holds 9 = .ok (.istore_n 3, 1) := by decide +kernel
theorem dX3_holds_10 : decode cX3_holds 10 = .ok (.aload_n 0, 1) := by decide +kernel
theorem dX3_holds_11 : decode cX3_holds 11 = .ok (.getfield 37, 3) := by decide +kernel
theorem dX3_holds_14 : decode cX3_holds 14 = .ok (.getfield 70, 3) := by decide +kernel
theorem dX3_holds_17 : decode cX3_holds 17 = .ok (.iload_n 2, 1) := by decide +kernel
theorem dX3_holds_18 : decode cX3_holds 18 = .ok (.iaload, 1) := by decide +kernel
theorem dX3_holds_19 : decode cX3_holds 19 = .ok (.lookupswitch 50 #[(17, 25), (18, 43)], 25) := by decide +kernel
theorem dX3_holds_44 : decode cX3_holds 44 = .ok (.aload_n 1, 1) := by decide +kernel
theorem dX3_holds_45 : decode cX3_holds 45 = .ok (.getfield 98, 3) := by decide +kernel
theorem dX3_holds_48 : decode cX3_holds 48 = .ok (.aload_n 0, 1) := by decide +kernel
theorem dX3_holds_49 : decode cX3_holds 49 = .ok (.getfield 37, 3) := by decide +kernel
theorem dX3_holds_52 : decode cX3_holds 52 = .ok (.getfield 101, 3) := by decide +kernel
theorem dX3_holds_55 : decode cX3_holds 55 = .ok (.iload_n 2, 1) := by decide +kernel
theorem dX3_holds_56 : decode cX3_holds 56 = .ok (.iaload, 1) := by decide +kernel
theorem dX3_holds_57 : decode cX3_holds 57 = .ok (.iload_n 3, 1) := by decide +kernel
theorem dX3_holds_58 : decode cX3_holds 58 = .ok (.invokestatic 104, 3) := by decide +kernel
theorem dX3_holds_61 : decode cX3_holds 61 = .ok (.ireturn, 1) := by decide +kernel
theorem dX3_holds_62 : decode cX3_holds 62 = .ok (.aload_n 0, 1) := by decide +kernel
theorem dX3_holds_63 : decode cX3_holds 63 = .ok (.aload_n 1, 1) := by decide +kernel
theorem dX3_holds_64 : decode cX3_holds 64 = .ok (.iconst (-1), 1) := by decide +kernel
theorem dX3_holds_65 : decode cX3_holds 65 = .ok (.invokevirtual 108, 3) := by decide +kernel
theorem dX3_holds_68 : decode cX3_holds 68 = .ok (.ireturn, 1) := by decide +kernel
theorem dX3_holds_69 : decode cX3_holds 69 = .ok (.aload_n 1, 1) := by decide +kernel
theorem dX3_holds_70 : decode cX3_holds 70 = .ok (.getfield 112, 3) := by decide +kernel
theorem dX3_holds_73 : decode cX3_holds 73 = .ok (.iconst 1, 1) := by decide +kernel
theorem dX3_holds_74 : decode cX3_holds 74 = .ok (.iload_n 3, 1) := by decide +kernel
theorem dX3_holds_75 : decode cX3_holds 75 = .ok (.ishl, 1) := by decide +kernel
theorem dX3_holds_76 : decode cX3_holds 76 = .ok (.iand, 1) := by decide +kernel
theorem dX3_holds_77 : decode cX3_holds 77 = .ok (.ifCond .eq 7, 3) := by decide +kernel
theorem dX3_holds_80 : decode cX3_holds 80 = .ok (.iconst 1, 1) := by decide +kernel
theorem dX3_holds_81 : decode cX3_holds 81 = .ok (.goto 4, 3) := by decide +kernel
theorem dX3_holds_84 : decode cX3_holds 84 = .ok (.iconst 0, 1) := by decide +kernel
theorem dX3_holds_85 : decode cX3_holds 85 = .ok (.ireturn, 1) := by decide +kernel
theorem dX3_compares_0 : decode cX3_compares 0 = .ok (.iload_n 1, 1) := by decide +kernel
theorem dX3_compares_1 : decode cX3_compares 1 = .ok (.bipush 60, 2) := by decide +kernel
theorem dX3_compares_3 : decode cX3_compares 3 = .ok (.if_icmp .ne 14, 3) := by decide +kernel
theorem dX3_compares_6 : decode cX3_compares 6 = .ok (.iload_n 0, 1) := by decide +kernel
theorem dX3_compares_7 : decode cX3_compares 7 = .ok (.iload_n 2, 1) := by decide +kernel
theorem dX3_compares_8 : decode cX3_compares 8 = .ok (.if_icmp .ge 7, 3) := by decide +kernel
theorem dX3_compares_11 : decode cX3_compares 11 = .ok (.iconst 1, 1) := by decide +kernel
theorem dX3_compares_12 : decode cX3_compares 12 = .ok (.goto 4, 3) := by decide +kernel
theorem dX3_compares_15 : decode cX3_compares 15 = .ok (.iconst 0, 1) := by decide +kernel
theorem dX3_compares_16 : decode cX3_compares 16 = .ok (.ireturn, 1) := by decide +kernel
theorem dX3_compares_17 : decode cX3_compares 17 = .ok (.iload_n 1, 1) := by decide +kernel
theorem dX3_compares_18 : decode cX3_compares 18 = .ok (.bipush 62, 2) := by decide +kernel
theorem dX3_compares_20 : decode cX3_compares 20 = .ok (.if_icmp .ne 16, 3) := by decide +kernel
theorem dX3_compares_23 : decode cX3_compares 23 = .ok (.iload_n 0, 1) := by decide +kernel
theorem dX3_compares_24 : decode cX3_compares 24 = .ok (.iload_n 2, 1) := by decide +kernel
theorem dX3_compares_25 : decode cX3_compares 25 = .ok (.if_icmp .le 7, 3) := by decide +kernel
theorem dX3_compares_28 : decode cX3_compares 28 = .ok (.iconst 1, 1) := by decide +kernel
theorem dX3_compares_29 : decode cX3_compares 29 = .ok (.goto 17, 3) := by decide +kernel
theorem dX3_compares_32 : decode cX3_compares 32 = .ok (.iconst 0, 1) := by decide +kernel
theorem dX3_compares_33 : decode cX3_compares 33 = .ok (.goto 13, 3) := by decide +kernel
theorem dX3_compares_36 : decode cX3_compares 36 = .ok (.iload_n 0, 1) := by decide +kernel
theorem dX3_compares_37 : decode cX3_compares 37 = .ok (.iload_n 2, 1) := by decide +kernel
theorem dX3_compares_38 : decode cX3_compares 38 = .ok (.if_icmp .ne 7, 3) := by decide +kernel
theorem dX3_compares_41 : decode cX3_compares 41 = .ok (.iconst 1, 1) := by decide +kernel
theorem dX3_compares_42 : decode cX3_compares 42 = .ok (.goto 4, 3) := by decide +kernel
theorem dX3_compares_45 : decode cX3_compares 45 = .ok (.iconst 0, 1) := by decide +kernel
theorem dX3_compares_46 : decode cX3_compares 46 = .ok (.ireturn, 1) := by decide +kernel
theorem dX3_tryLearn_0 : decode cX3_tryLearn 0 = .ok (.aload_n 1, 1) := by decide +kernel
theorem dX3_tryLearn_1 : decode cX3_tryLearn 1 = .ok (.iload_n 3, 1) := by decide +kernel
theorem dX3_tryLearn_2 : decode cX3_tryLearn 2 = .ok (.i2l, 1) := by decide +kernel
theorem dX3_tryLearn_3 : decode cX3_tryLearn 3 = .ok (.invokevirtual 115, 3) := by decide +kernel
theorem dX3_tryLearn_6 : decode cX3_tryLearn 6 = .ok (.ifCond .eq 43, 3) := by decide +kernel
theorem dX3_tryLearn_9 : decode cX3_tryLearn 9 = .ok (.aload_n 1, 1) := by decide +kernel
theorem dX3_tryLearn_10 : decode cX3_tryLearn 10 = .ok (.aload_n 2, 1) := by decide +kernel
theorem dX3_tryLearn_11 : decode cX3_tryLearn 11 = .ok (.getfield 112, 3) := by decide +kernel
theorem dX3_tryLearn_14 : decode cX3_tryLearn 14 = .ok (.iload_n 3, 1) := by decide +kernel
theorem dX3_tryLearn_15 : decode cX3_tryLearn 15 = .ok (.invokevirtual 119, 3) := by decide +kernel
theorem dX3_tryLearn_18 : decode cX3_tryLearn 18 = .ok (.ifCond .eq 31, 3) := by decide +kernel
theorem dX3_tryLearn_21 : decode cX3_tryLearn 21 = .ok (.aload_n 1, 1) := by decide +kernel
theorem dX3_tryLearn_22 : decode cX3_tryLearn 22 = .ok (.aload_n 2, 1) := by decide +kernel
theorem dX3_tryLearn_23 : decode cX3_tryLearn 23 = .ok (.iload_n 3, 1) := by decide +kernel
theorem dX3_tryLearn_24 : decode cX3_tryLearn 24 = .ok (.invokevirtual 123, 3) := by decide +kernel
theorem dX3_tryLearn_27 : decode cX3_tryLearn 27 = .ok (.ifCond .eq 22, 3) := by decide +kernel
theorem dX3_tryLearn_30 : decode cX3_tryLearn 30 = .ok (.aload_n 1, 1) := by decide +kernel
theorem dX3_tryLearn_31 : decode cX3_tryLearn 31 = .ok (.aload_n 2, 1) := by decide +kernel
theorem dX3_tryLearn_32 : decode cX3_tryLearn 32 = .ok (.iload_n 3, 1) := by decide +kernel
theorem dX3_tryLearn_33 : decode cX3_tryLearn 33 = .ok (.invokevirtual 126, 3) := by decide +kernel
theorem dX3_tryLearn_36 : decode cX3_tryLearn 36 = .ok (.aload_n 0, 1) := by decide +kernel
theorem dX3_tryLearn_37 : decode cX3_tryLearn 37 = .ok (.dup, 1) := by decide +kernel
theorem dX3_tryLearn_38 : decode cX3_tryLearn 38 = .ok (.getfield 22, 3) := by decide +kernel
theorem dX3_tryLearn_41 : decode cX3_tryLearn 41 = .ok (.iconst 1, 1) := by decide +kernel
theorem dX3_tryLearn_42 : decode cX3_tryLearn 42 = .ok (.iadd, 1) := by decide +kernel
theorem dX3_tryLearn_43 : decode cX3_tryLearn 43 = .ok (.putfield 22, 3) := by decide +kernel
theorem dX3_tryLearn_46 : decode cX3_tryLearn 46 = .ok (.goto 13, 3) := by decide +kernel
theorem dX3_tryLearn_49 : decode cX3_tryLearn 49 = .ok (.aload_n 0, 1) := by decide +kernel
theorem dX3_tryLearn_50 : decode cX3_tryLearn 50 = .ok (.dup, 1) := by decide +kernel
theorem dX3_tryLearn_51 : decode cX3_tryLearn 51 = .ok (.getfield 19, 3) := by decide +kernel
theorem dX3_tryLearn_54 : decode cX3_tryLearn 54 = .ok (.iconst 1, 1) := by decide +kernel
theorem dX3_tryLearn_55 : decode cX3_tryLearn 55 = .ok (.iadd, 1) := by decide +kernel
theorem dX3_tryLearn_56 : decode cX3_tryLearn 56 = .ok (.putfield 19, 3) := by decide +kernel
theorem dX3_tryLearn_59 : decode cX3_tryLearn 59 = .ok (.return_, 1) := by decide +kernel
theorem dX3_tryLose_0 : decode cX3_tryLose 0 = .ok (.aload_n 1, 1) := by decide +kernel
theorem dX3_tryLose_1 : decode cX3_tryLose 1 = .ok (.iload_n 2, 1) := by decide +kernel
theorem dX3_tryLose_2 : decode cX3_tryLose 2 = .ok (.invokevirtual 129, 3) := by decide +kernel
theorem dX3_tryLose_5 : decode cX3_tryLose 5 = .ok (.ifCond .eq 22, 3) := by decide +kernel
theorem dX3_tryLose_8 : decode cX3_tryLose 8 = .ok (.aload_n 1, 1) := by decide +kernel
theorem dX3_tryLose_9 : decode cX3_tryLose 9 = .ok (.iload_n 2, 1) := by decide +kernel
theorem dX3_tryLose_10 : decode cX3_tryLose 10 = .ok (.invokevirtual 132, 3) := by decide +kernel
theorem dX3_tryLose_13 : decode cX3_tryLose 13 = .ok (.pop, 1) := by decide +kernel
theorem dX3_tryLose_14 : decode cX3_tryLose 14 = .ok (.aload_n 0, 1) := by decide +kernel
theorem dX3_tryLose_15 : decode cX3_tryLose 15 = .ok (.dup, 1) := by decide +kernel
theorem dX3_tryLose_16 : decode cX3_tryLose 16 = .ok (.getfield 25, 3) := by decide +kernel
theorem dX3_tryLose_19 : decode cX3_tryLose 19 = .ok (.iconst 1, 1) := by decide +kernel
theorem dX3_tryLose_20 : decode cX3_tryLose 20 = .ok (.iadd, 1) := by decide +kernel
theorem dX3_tryLose_21 : decode cX3_tryLose 21 = .ok (.putfield 25, 3) := by decide +kernel
theorem dX3_tryLose_24 : decode cX3_tryLose 24 = .ok (.goto 13, 3) := by decide +kernel
theorem dX3_tryLose_27 : decode cX3_tryLose 27 = .ok (.aload_n 0, 1) := by decide +kernel
theorem dX3_tryLose_28 : decode cX3_tryLose 28 = .ok (.dup, 1) := by decide +kernel
theorem dX3_tryLose_29 : decode cX3_tryLose 29 = .ok (.getfield 19, 3) := by decide +kernel
theorem dX3_tryLose_32 : decode cX3_tryLose 32 = .ok (.iconst 1, 1) := by decide +kernel
theorem dX3_tryLose_33 : decode cX3_tryLose 33 = .ok (.iadd, 1) := by decide +kernel
theorem dX3_tryLose_34 : decode cX3_tryLose 34 = .ok (.putfield 19, 3) := by decide +kernel
theorem dX3_tryLose_37 : decode cX3_tryLose 37 = .ok (.return_, 1) := by decide +kernel
theorem dX3_meetFate_0 : decode cX3_meetFate 0 = .ok (.aload_n 0, 1) := by decide +kernel
theorem dX3_meetFate_1 : decode cX3_meetFate 1 = .ok (.bipush 16, 2) := by decide +kernel
theorem dX3_meetFate_3 : decode cX3_meetFate 3 = .ok (.invokevirtual 136, 3) := by decide +kernel
theorem dX3_meetFate_6 : decode cX3_meetFate 6 = .ok (.istore_n 3, 1) := by decide +kernel
theorem dX3_meetFate_7 : decode cX3_meetFate 7 = .ok (.iload_n 3, 1) := by decide +kernel
theorem dX3_meetFate_8 : decode cX3_meetFate 8 = .ok (.bipush 8, 2) := by decide +kernel
theorem dX3_meetFate_10 : decode cX3_meetFate 10 = .ok (.if_icmp .ge 17, 3) := by decide +kernel
theorem dX3_meetFate_13 : decode cX3_meetFate 13 = .ok (.aload_n 0, 1) := by decide +kernel
theorem dX3_meetFate_14 : decode cX3_meetFate 14 = .ok (.aload_n 1, 1) := by decide +kernel
theorem dX3_meetFate_15 : decode cX3_meetFate 15 = .ok (.aload_n 2, 1) := by decide +kernel
theorem dX3_meetFate_16 : decode cX3_meetFate 16 = .ok (.aload_n 1, 1) := by decide +kernel
theorem dX3_meetFate_17 : decode cX3_meetFate 17 = .ok (.aload_n 2, 1) := by decide +kernel
theorem dX3_meetFate_18 : decode cX3_meetFate 18 = .ok (.invokevirtual 139, 3) := by decide +kernel
theorem dX3_meetFate_21 : decode cX3_meetFate 21 = .ok (.invokevirtual 73, 3) := by decide +kernel
theorem dX3_meetFate_24 : decode cX3_meetFate 24 = .ok (.goto 53, 3) := by decide +kernel
theorem dX3_meetFate_27 : decode cX3_meetFate 27 = .ok (.iload_n 3, 1) := by decide +kernel
theorem dX3_meetFate_28 : decode cX3_meetFate 28 = .ok (.bipush 14, 2) := by decide +kernel
theorem dX3_meetFate_30 : decode cX3_meetFate 30 = .ok (.if_icmp .ge 34, 3) := by decide +kernel
theorem dX3_meetFate_33 : decode cX3_meetFate 33 = .ok (.aload_n 1, 1) := by decide +kernel
theorem dX3_meetFate_34 : decode cX3_meetFate 34 = .ok (.aload_n 2, 1) := by decide +kernel
theorem dX3_meetFate_35 : decode cX3_meetFate 35 = .ok (.iconst 1, 1) := by decide +kernel
theorem dX3_meetFate_36 : decode cX3_meetFate 36 = .ok (.invokevirtual 143, 3) := by decide +kernel
theorem dX3_meetFate_39 : decode cX3_meetFate 39 = .ok (.istore 4, 2) := by decide +kernel
theorem dX3_meetFate_41 : decode cX3_meetFate 41 = .ok (.aload_n 0, 1) := by decide +kernel
theorem dX3_meetFate_42 : decode cX3_meetFate 42 = .ok (.aload_n 1, 1) := by decide +kernel
theorem dX3_meetFate_43 : decode cX3_meetFate 43 = .ok (.aload_n 2, 1) := by decide +kernel
theorem dX3_meetFate_44 : decode cX3_meetFate 44 = .ok (.iload 4, 2) := by decide +kernel
theorem dX3_meetFate_46 : decode cX3_meetFate 46 = .ok (.aload_n 0, 1) := by decide +kernel
theorem dX3_meetFate_47 : decode cX3_meetFate 47 = .ok (.iload 4, 2) := by decide +kernel
theorem dX3_meetFate_49 : decode cX3_meetFate 49 = .ok (.invokestatic 147, 3) := by decide +kernel
theorem dX3_meetFate_52 : decode cX3_meetFate 52 = .ok (.invokevirtual 136, 3) := by decide +kernel
theorem dX3_meetFate_55 : decode cX3_meetFate 55 = .ok (.invokestatic 152, 3) := by decide +kernel
theorem dX3_meetFate_58 : decode cX3_meetFate 58 = .ok (.invokevirtual 73, 3) := by decide +kernel
theorem dX3_meetFate_61 : decode cX3_meetFate 61 = .ok (.goto 16, 3) := by decide +kernel
theorem dX3_meetFate_64 : decode cX3_meetFate 64 = .ok (.aload_n 0, 1) := by decide +kernel
theorem dX3_meetFate_65 : decode cX3_meetFate 65 = .ok (.aload_n 2, 1) := by decide +kernel
theorem dX3_meetFate_66 : decode cX3_meetFate 66 = .ok (.aload_n 0, 1) := by decide +kernel
theorem dX3_meetFate_67 : decode cX3_meetFate 67 = .ok (.aload_n 2, 1) := by decide +kernel
theorem dX3_meetFate_68 : decode cX3_meetFate 68 = .ok (.getfield 98, 3) := by decide +kernel
theorem dX3_meetFate_71 : decode cX3_meetFate 71 = .ok (.invokevirtual 136, 3) := by decide +kernel
theorem dX3_meetFate_74 : decode cX3_meetFate 74 = .ok (.invokevirtual 77, 3) := by decide +kernel
theorem dX3_meetFate_77 : decode cX3_meetFate 77 = .ok (.return_, 1) := by decide +kernel
theorem dX3_draw_0 : decode cX3_draw 0 = .ok (.iload_n 1, 1) := by decide +kernel
theorem dX3_draw_1 : decode cX3_draw 1 = .ok (.ifCond .gt 5, 3) := by decide +kernel
theorem dX3_draw_4 : decode cX3_draw 4 = .ok (.iconst (-1), 1) := by decide +kernel
theorem dX3_draw_5 : decode cX3_draw 5 = .ok (.ireturn, 1) := by decide +kernel
theorem dX3_draw_6 : decode cX3_draw 6 = .ok (.aload_n 0, 1) := by decide +kernel
theorem dX3_draw_7 : decode cX3_draw 7 = .ok (.aload_n 0, 1) := by decide +kernel
theorem dX3_draw_8 : decode cX3_draw 8 = .ok (.getfield 34, 3) := by decide +kernel
theorem dX3_draw_11 : decode cX3_draw 11 = .ok (.sipush 2887, 3) := by decide +kernel
theorem dX3_draw_14 : decode cX3_draw 14 = .ok (.imul, 1) := by decide +kernel
theorem dX3_draw_15 : decode cX3_draw 15 = .ok (.sipush 10477, 3) := by decide +kernel
theorem dX3_draw_18 : decode cX3_draw 18 = .ok (.iadd, 1) := by decide +kernel
theorem dX3_draw_19 : decode cX3_draw 19 = .ok (.ldc 156, 2) := by decide +kernel
theorem dX3_draw_21 : decode cX3_draw 21 = .ok (.irem, 1) := by decide +kernel
theorem dX3_draw_22 : decode cX3_draw 22 = .ok (.putfield 34, 3) := by decide +kernel
theorem dX3_draw_25 : decode cX3_draw 25 = .ok (.aload_n 0, 1) := by decide +kernel
theorem dX3_draw_26 : decode cX3_draw 26 = .ok (.getfield 34, 3) := by decide +kernel
theorem dX3_draw_29 : decode cX3_draw 29 = .ok (.bipush 8, 2) := by decide +kernel
theorem dX3_draw_31 : decode cX3_draw 31 = .ok (.idiv, 1) := by decide +kernel
theorem dX3_draw_32 : decode cX3_draw 32 = .ok (.iload_n 1, 1) := by decide +kernel
theorem dX3_draw_33 : decode cX3_draw 33 = .ok (.irem, 1) := by decide +kernel
theorem dX3_draw_34 : decode cX3_draw 34 = .ok (.ireturn, 1) := by decide +kernel
theorem dX3_memberOf_0 : decode cX3_memberOf 0 = .ok (.iload_n 1, 1) := by decide +kernel
theorem dX3_memberOf_1 : decode cX3_memberOf 1 = .ok (.istore_n 2, 1) := by decide +kernel
theorem dX3_memberOf_2 : decode cX3_memberOf 2 = .ok (.iconst 0, 1) := by decide +kernel
theorem dX3_memberOf_3 : decode cX3_memberOf 3 = .ok (.istore_n 3, 1) := by decide +kernel
theorem dX3_memberOf_4 : decode cX3_memberOf 4 = .ok (.iload_n 3, 1) := by decide +kernel
theorem dX3_memberOf_5 : decode cX3_memberOf 5 = .ok (.bipush 12, 2) := by decide +kernel
theorem dX3_memberOf_7 : decode cX3_memberOf 7 = .ok (.if_icmp .ge 30, 3) := by decide +kernel
theorem dX3_memberOf_10 : decode cX3_memberOf 10 = .ok (.iload_n 2, 1) := by decide +kernel
theorem dX3_memberOf_11 : decode cX3_memberOf 11 = .ok (.ifCond .lt 26, 3) := by decide +kernel
theorem dX3_memberOf_14 : decode cX3_memberOf 14 = .ok (.iload_n 0, 1) := by decide +kernel
theorem dX3_memberOf_15 : decode cX3_memberOf 15 = .ok (.iconst 1, 1) := by decide +kernel
theorem dX3_memberOf_16 : decode cX3_memberOf 16 = .ok (.iload_n 3, 1) := by decide +kernel
theorem dX3_memberOf_17 : decode cX3_memberOf 17 = .ok (.ishl, 1) := by decide +kernel
theorem dX3_memberOf_18 : decode cX3_memberOf 18 = .ok (.iand, 1) := by decide +kernel
theorem dX3_memberOf_19 : decode cX3_memberOf 19 = .ok (.ifCond .eq 12, 3) := by decide +kernel
theorem dX3_memberOf_22 : decode cX3_memberOf 22 = .ok (.iload_n 2, 1) := by decide +kernel
theorem dX3_memberOf_23 : decode cX3_memberOf 23 = .ok (.ifCond .ne 5, 3) := by decide +kernel
theorem dX3_memberOf_26 : decode cX3_memberOf 26 = .ok (.iload_n 3, 1) := by decide +kernel
theorem dX3_memberOf_27 : decode cX3_memberOf 27 = .ok (.ireturn, 1) := by decide +kernel
theorem dX3_memberOf_28 : decode cX3_memberOf 28 = .ok (.iinc 2 (-1), 3) := by decide +kernel
theorem dX3_memberOf_31 : decode cX3_memberOf 31 = .ok (.iinc 3 1, 3) := by decide +kernel
theorem dX3_memberOf_34 : decode cX3_memberOf 34 = .ok (.goto (-30), 3) := by decide +kernel
theorem dX3_memberOf_37 : decode cX3_memberOf 37 = .ok (.iconst (-1), 1) := by decide +kernel
theorem dX3_memberOf_38 : decode cX3_memberOf 38 = .ok (.ireturn, 1) := by decide +kernel
theorem dX4_init_0 : decode cX4_init 0 = .ok (.aload_n 0, 1) := by decide +kernel
theorem dX4_init_1 : decode cX4_init 1 = .ok (.invokespecial 3, 3) := by decide +kernel
theorem dX4_init_4 : decode cX4_init 4 = .ok (.aload_n 0, 1) := by decide +kernel
theorem dX4_init_5 : decode cX4_init 5 = .ok (.iconst 4, 1) := by decide +kernel
theorem dX4_init_6 : decode cX4_init 6 = .ok (.newarray .int, 2) := by decide +kernel
theorem dX4_init_8 : decode cX4_init 8 = .ok (.putfield 9, 3) := by decide +kernel
theorem dX4_init_11 : decode cX4_init 11 = .ok (.aload_n 0, 1) := by decide +kernel
theorem dX4_init_12 : decode cX4_init 12 = .ok (.iconst 4, 1) := by decide +kernel
theorem dX4_init_13 : decode cX4_init 13 = .ok (.newarray .int, 2) := by decide +kernel
theorem dX4_init_15 : decode cX4_init 15 = .ok (.putfield 15, 3) := by decide +kernel
theorem dX4_init_18 : decode cX4_init 18 = .ok (.aload_n 0, 1) := by decide +kernel
theorem dX4_init_19 : decode cX4_init 19 = .ok (.iconst 4, 1) := by decide +kernel
theorem dX4_init_20 : decode cX4_init 20 = .ok (.bipush 12, 2) := by decide +kernel
theorem dX4_init_22 : decode cX4_init 22 = .ok (.multianewarray 18 2, 4) := by decide +kernel
theorem dX4_init_26 : decode cX4_init 26 = .ok (.putfield 20, 3) := by decide +kernel
theorem dX4_init_29 : decode cX4_init 29 = .ok (.aload_n 0, 1) := by decide +kernel
theorem dX4_init_30 : decode cX4_init 30 = .ok (.iconst 4, 1) := by decide +kernel
theorem dX4_init_31 : decode cX4_init 31 = .ok (.newarray .int, 2) := by decide +kernel
theorem dX4_init_33 : decode cX4_init 33 = .ok (.putfield 23, 3) := by decide +kernel
theorem dX4_init_36 : decode cX4_init 36 = .ok (.aload_n 0, 1) := by decide +kernel
theorem dX4_init_37 : decode cX4_init 37 = .ok (.iconst 4, 1) := by decide +kernel
theorem dX4_init_38 : decode cX4_init 38 = .ok (.newarray .int, 2) := by decide +kernel
theorem dX4_init_40 : decode cX4_init 40 = .ok (.putfield 26, 3) := by decide +kernel
theorem dX4_init_43 : decode cX4_init 43 = .ok (.return_, 1) := by decide +kernel
theorem dX4_hasChild_0 : decode cX4_hasChild 0 = .ok (.iload_n 1, 1) := by decide +kernel
theorem dX4_hasChild_1 : decode cX4_hasChild 1 = .ok (.ifCond .lt 15, 3) := by decide +kernel
theorem dX4_hasChild_4 : decode cX4_hasChild 4 = .ok (.iload_n 1, 1) := by decide +kernel
theorem dX4_hasChild_5 : decode cX4_hasChild 5 = .ok (.aload_n 0, 1) := by decide +kernel
theorem dX4_hasChild_6 : decode cX4_hasChild 6 = .ok (.getfield 29, 3) := by decide +kernel
theorem dX4_hasChild_9 : decode cX4_hasChild 9 = .ok (.if_icmp .ge 7, 3) := by decide +kernel
theorem dX4_hasChild_12 : decode cX4_hasChild 12 = .ok (.iconst 1, 1) := by decide +kernel
theorem dX4_hasChild_13 : decode cX4_hasChild 13 = .ok (.goto 4, 3) := by decide +kernel
theorem dX4_hasChild_16 : decode cX4_hasChild 16 = .ok (.iconst 0, 1) := by decide +kernel
theorem dX4_hasChild_17 : decode cX4_hasChild 17 = .ok (.ireturn, 1) := by decide +kernel
theorem dX4_make_0 : decode cX4_make 0 = .ok (.aload_n 0, 1) := by decide +kernel
theorem dX4_make_1 : decode cX4_make 1 = .ok (.aload_n 1, 1) := by decide +kernel
theorem dX4_make_2 : decode cX4_make 2 = .ok (.getfield 33, 3) := by decide +kernel
theorem dX4_make_5 : decode cX4_make 5 = .ok (.putfield 29, 3) := by decide +kernel
theorem dX4_make_8 : decode cX4_make 8 = .ok (.aload_n 0, 1) := by decide +kernel
theorem dX4_make_9 : decode cX4_make 9 = .ok (.iconst 0, 1) := by decide +kernel
theorem dX4_make_10 : decode cX4_make 10 = .ok (.putfield 36, 3) := by decide +kernel
theorem dX4_make_13 : decode cX4_make 13 = .ok (.iconst 0, 1) := by decide +kernel
theorem dX4_make_14 : decode cX4_make 14 = .ok (.istore_n 3, 1) := by decide +kernel
theorem dX4_make_15 : decode cX4_make 15 = .ok (.iconst 0, 1) := by decide +kernel
theorem dX4_make_16 : decode cX4_make 16 = .ok (.istore 4, 2) := by decide +kernel
theorem dX4_make_18 : decode cX4_make 18 = .ok (.iload 4, 2) := by decide +kernel
theorem dX4_make_20 : decode cX4_make 20 = .ok (.aload_n 0, 1) := by decide +kernel
theorem dX4_make_21 : decode cX4_make 21 = .ok (.getfield 29, 3) := by decide +kernel
theorem dX4_make_24 : decode cX4_make 24 = .ok (.if_icmp .ge 57, 3) := by decide +kernel
theorem dX4_make_27 : decode cX4_make 27 = .ok (.aload_n 0, 1) := by decide +kernel
theorem dX4_make_28 : decode cX4_make 28 = .ok (.getfield 9, 3) := by decide +kernel
theorem dX4_make_31 : decode cX4_make 31 = .ok (.iload 4, 2) := by decide +kernel
theorem dX4_make_33 : decode cX4_make 33 = .ok (.iconst 0, 1) := by decide +kernel
theorem dX4_make_34 : decode cX4_make 34 = .ok (.iastore, 1) := by decide +kernel
theorem dX4_make_35 : decode cX4_make 35 = .ok (.aload_n 0, 1) := by decide +kernel
theorem dX4_make_36 : decode cX4_make 36 = .ok (.getfield 15, 3) := by decide +kernel
theorem dX4_make_39 : decode cX4_make 39 = .ok (.iload 4, 2) := by decide +kernel
theorem dX4_make_41 : decode cX4_make 41 = .ok (.iconst 0, 1) := by decide +kernel
theorem dX4_make_42 : decode cX4_make 42 = .ok (.iastore, 1) := by decide +kernel
theorem dX4_make_43 : decode cX4_make 43 = .ok (.aload_n 0, 1) := by decide +kernel
theorem dX4_make_44 : decode cX4_make 44 = .ok (.getfield 23, 3) := by decide +kernel
theorem dX4_make_47 : decode cX4_make 47 = .ok (.iload 4, 2) := by decide +kernel
theorem dX4_make_49 : decode cX4_make 49 = .ok (.iconst 0, 1) := by decide +kernel
theorem dX4_make_50 : decode cX4_make 50 = .ok (.iastore, 1) := by decide +kernel
theorem dX4_make_51 : decode cX4_make 51 = .ok (.iload_n 3, 1) := by decide +kernel
theorem dX4_make_52 : decode cX4_make 52 = .ok (.aload_n 2, 1) := by decide +kernel
theorem dX4_make_53 : decode cX4_make 53 = .ok (.iload 4, 2) := by decide +kernel
theorem dX4_make_55 : decode cX4_make 55 = .ok (.aaload, 1) := by decide +kernel
theorem dX4_make_56 : decode cX4_make 56 = .ok (.getfield 39, 3) := by decide +kernel
theorem dX4_make_59 : decode cX4_make 59 = .ok (.ifCond .eq 13, 3) := by decide +kernel
theorem dX4_make_62 : decode cX4_make 62 = .ok (.aload_n 2, 1) := by decide +kernel
theorem dX4_make_63 : decode cX4_make 63 = .ok (.iload 4, 2) := by decide +kernel
theorem dX4_make_65 : decode cX4_make 65 = .ok (.aaload, 1) := by decide +kernel
theorem dX4_make_66 : decode cX4_make 66 = .ok (.getfield 45, 3) := by decide +kernel
theorem dX4_make_69 : decode cX4_make 69 = .ok (.goto 4, 3) := by decide +kernel
theorem dX4_make_72 : decode cX4_make 72 = .ok (.iconst 0, 1) := by decide +kernel
theorem dX4_make_73 : decode cX4_make 73 = .ok (.iadd, 1) := by decide +kernel
theorem dX4_make_74 : decode cX4_make 74 = .ok (.istore_n 3, 1) := by decide +kernel
theorem dX4_make_75 : decode cX4_make 75 = .ok (.iinc 4 1, 3) := by decide +kernel
theorem dX4_make_78 : decode cX4_make 78 = .ok (.goto (-60), 3) := by decide +kernel
theorem dX4_make_81 : decode cX4_make 81 = .ok (.iconst 0, 1) := by decide +kernel
theorem dX4_make_82 : decode cX4_make 82 = .ok (.istore 4, 2) := by decide +kernel
theorem dX4_make_84 : decode cX4_make 84 = .ok (.iload 4, 2) := by decide +kernel
theorem dX4_make_86 : decode cX4_make 86 = .ok (.iconst 4, 1) := by decide +kernel
theorem dX4_make_87 : decode cX4_make 87 = .ok (.if_icmp .ge 17, 3) := by decide +kernel
theorem dX4_make_90 : decode cX4_make 90 = .ok (.aload_n 0, 1) := by decide +kernel
theorem dX4_make_91 : decode cX4_make 91 = .ok (.getfield 26, 3) := by decide +kernel
theorem dX4_make_94 : decode cX4_make 94 = .ok (.iload 4, 2) := by decide +kernel
theorem dX4_make_96 : decode cX4_make 96 = .ok (.iconst 0, 1) := by decide +kernel
theorem dX4_make_97 : decode cX4_make 97 = .ok (.iastore, 1) := by decide +kernel
theorem dX4_make_98 : decode cX4_make 98 = .ok (.iinc 4 1, 3) := by decide +kernel
theorem dX4_make_101 : decode cX4_make 101 = .ok (.goto (-17), 3) := by decide +kernel
theorem dX4_make_104 : decode cX4_make 104 = .ok (.iconst 0, 1) := by decide +kernel
theorem dX4_make_105 : decode cX4_make 105 = .ok (.istore 4, 2) := by decide +kernel
theorem dX4_make_107 : decode cX4_make 107 = .ok (.iload 4, 2) := by decide +kernel
theorem dX4_make_109 : decode cX4_make 109 = .ok (.sipush 1440, 3) := by decide +kernel
theorem dX4_make_112 : decode cX4_make 112 = .ok (.if_icmp .gt 113, 3) := by decide +kernel
theorem dX4_make_115 : decode cX4_make 115 = .ok (.iload_n 3, 1) := by decide +kernel
theorem dX4_make_116 : decode cX4_make 116 = .ok (.ifCond .le 109, 3) := by decide +kernel
theorem dX4_make_119 : decode cX4_make 119 = .ok (.iconst 0, 1) := by decide +kernel
theorem dX4_make_120 : decode cX4_make 120 = .ok (.istore 5, 2) := by decide +kernel
theorem dX4_make_122 : decode cX4_make 122 = .ok (.iload 5, 2) := by decide +kernel
theorem dX4_make_124 : decode cX4_make 124 = .ok (.aload_n 0, 1) := by decide +kernel
theorem dX4_make_125 : decode cX4_make 125 = .ok (.getfield 29, 3) := by decide +kernel
theorem dX4_make_128 : decode cX4_make 128 = .ok (.if_icmp .ge 91, 3) := by decide +kernel
theorem dX4_make_131 : decode cX4_make 131 = .ok (.aload_n 2, 1) := by decide +kernel
theorem dX4_make_132 : decode cX4_make 132 = .ok (.iload 5, 2) := by decide +kernel
theorem dX4_make_134 : decode cX4_make 134 = .ok (.aaload, 1) := by decide +kernel
theorem dX4_make_135 : decode cX4_make 135 = .ok (.getfield 39, 3) := by decide +kernel
theorem dX4_make_138 : decode cX4_make 138 = .ok (.ifCond .eq 36, 3) := by decide +kernel
theorem dX4_make_141 : decode cX4_make 141 = .ok (.aload_n 0, 1) := by decide +kernel
theorem dX4_make_142 : decode cX4_make 142 = .ok (.getfield 9, 3) := by decide +kernel
theorem dX4_make_145 : decode cX4_make 145 = .ok (.iload 5, 2) := by decide +kernel
theorem dX4_make_147 : decode cX4_make 147 = .ok (.iaload, 1) := by decide +kernel
theorem dX4_make_148 : decode cX4_make 148 = .ok (.aload_n 2, 1) := by decide +kernel
theorem dX4_make_149 : decode cX4_make 149 = .ok (.iload 5, 2) := by decide +kernel
theorem dX4_make_151 : decode cX4_make 151 = .ok (.aaload, 1) := by decide +kernel
theorem dX4_make_152 : decode cX4_make 152 = .ok (.getfield 45, 3) := by decide +kernel
theorem dX4_make_155 : decode cX4_make 155 = .ok (.if_icmp .ge 19, 3) := by decide +kernel
theorem dX4_make_158 : decode cX4_make 158 = .ok (.aload_n 0, 1) := by decide +kernel
theorem dX4_make_159 : decode cX4_make 159 = .ok (.getfield 23, 3) := by decide +kernel
theorem dX4_make_162 : decode cX4_make 162 = .ok (.iload 5, 2) := by decide +kernel
theorem dX4_make_164 : decode cX4_make 164 = .ok (.iaload, 1) := by decide +kernel
theorem dX4_make_165 : decode cX4_make 165 = .ok (.iload 4, 2) := by decide +kernel
theorem dX4_make_167 : decode cX4_make 167 = .ok (.if_icmp .gt 7, 3) := by decide +kernel
theorem dX4_make_170 : decode cX4_make 170 = .ok (.iconst 1, 1) := by decide +kernel
theorem dX4_make_171 : decode cX4_make 171 = .ok (.goto 4, 3) := by decide +kernel
theorem dX4_make_174 : decode cX4_make 174 = .ok (.iconst 0, 1) := by decide +kernel
theorem dX4_make_175 : decode cX4_make 175 = .ok (.istore 6, 2) := by decide +kernel
theorem dX4_make_177 : decode cX4_make 177 = .ok (.iload 6, 2) := by decide +kernel
theorem dX4_make_179 : decode cX4_make 179 = .ok (.ifCond .eq 34, 3) := by decide +kernel
theorem dX4_make_182 : decode cX4_make 182 = .ok (.aload_n 0, 1) := by decide +kernel
theorem dX4_make_183 : decode cX4_make 183 = .ok (.aload_n 1, 1) := by decide +kernel
theorem dX4_make_184 : decode cX4_make 184 = .ok (.iload 5, 2) := by decide +kernel
theorem dX4_make_186 : decode cX4_make 186 = .ok (.aload_n 2, 1) := by decide +kernel
theorem dX4_make_187 : decode cX4_make 187 = .ok (.iload 5, 2) := by decide +kernel
theorem dX4_make_189 : decode cX4_make 189 = .ok (.aaload, 1) := by decide +kernel
theorem dX4_make_190 : decode cX4_make 190 = .ok (.getfield 48, 3) := by decide +kernel
theorem dX4_make_193 : decode cX4_make 193 = .ok (.aload_n 0, 1) := by decide +kernel
theorem dX4_make_194 : decode cX4_make 194 = .ok (.getfield 9, 3) := by decide +kernel
theorem dX4_make_197 : decode cX4_make 197 = .ok (.iload 5, 2) := by decide +kernel
theorem dX4_make_199 : decode cX4_make 199 = .ok (.iaload, 1) := by decide +kernel
theorem dX4_make_200 : decode cX4_make 200 = .ok (.laload, 1) := by decide +kernel
theorem dX4_make_201 : decode cX4_make 201 = .ok (.l2i, 1) := by decide +kernel
theorem dX4_make_202 : decode cX4_make 202 = .ok (.iload 4, 2) := by decide +kernel
theorem dX4_make_204 : decode cX4_make 204 = .ok (.invokevirtual 52, 3) := by decide +kernel
theorem dX4_make_207 : decode cX4_make 207 = .ok (.ifCond .eq 6, 3) := by decide +kernel
theorem dX4_make_210 : decode cX4_make 210 = .ok (.iinc 3 (-1), 3) := by decide +kernel
theorem dX4_make_213 : decode cX4_make 213 = .ok (.iinc 5 1, 3) := by decide +kernel
theorem dX4_make_216 : decode cX4_make 216 = .ok (.goto (-94), 3) := by decide +kernel
theorem dX4_make_219 : decode cX4_make 219 = .ok (.iinc 4 1, 3) := by decide +kernel
theorem dX4_make_222 : decode cX4_make 222 = .ok (.goto (-115), 3) := by decide +kernel
theorem dX4_make_225 : decode cX4_make 225 = .ok (.return_, 1) := by decide +kernel
theorem dX4_tryBegin_0 : decode cX4_tryBegin 0 = .ok (.aload_n 1, 1) := by decide +kernel
theorem dX4_tryBegin_1 : decode cX4_tryBegin 1 = .ok (.getfield 56, 3) := by decide +kernel
theorem dX4_tryBegin_4 : decode cX4_tryBegin 4 = .ok (.iload_n 3, 1) := by decide +kernel
theorem dX4_tryBegin_5 : decode cX4_tryBegin 5 = .ok (.aaload, 1) := by decide +kernel
theorem dX4_tryBegin_6 : decode cX4_tryBegin 6 = .ok (.getfield 60, 3) := by decide +kernel
theorem dX4_tryBegin_9 : decode cX4_tryBegin 9 = .ok (.istore 5, 2) := by decide +kernel
theorem dX4_tryBegin_11 : decode cX4_tryBegin 11 = .ok (.iload 5, 2) := by decide +kernel
theorem dX4_tryBegin_13 : decode cX4_tryBegin 13 = .ok (.iconst (-1), 1) := by decide +kernel
theorem dX4_tryBegin_14 : decode cX4_tryBegin 14 = .ok (.if_icmp .eq 17, 3) := by decide +kernel
theorem dX4_tryBegin_17 : decode cX4_tryBegin 17 = .ok (.aload_n 0, 1) := by decide +kernel
theorem dX4_tryBegin_18 : decode cX4_tryBegin 18 = .ok (.getfield 26, 3) := by decide +kernel
theorem dX4_tryBegin_21 : decode cX4_tryBegin 21 = .ok (.iload 5, 2) := by decide +kernel
theorem dX4_tryBegin_23 : decode cX4_tryBegin 23 = .ok (.iaload, 1) := by decide +kernel
theorem dX4_tryBegin_24 : decode cX4_tryBegin 24 = .ok (.iload 4, 2) := by decide +kernel
theorem dX4_tryBegin_26 : decode cX4_tryBegin 26 = .ok (.if_icmp .le 5, 3) := by decide +kernel
theorem dX4_tryBegin_29 : decode cX4_tryBegin 29 = .ok (.iconst 0, 1) := by decide +kernel
theorem dX4_tryBegin_30 : decode cX4_tryBegin 30 = .ok (.ireturn, 1) := by decide +kernel
theorem dX4_tryBegin_31 : decode cX4_tryBegin 31 = .ok (.iload 4, 2) := by decide +kernel
theorem dX4_tryBegin_33 : decode cX4_tryBegin 33 = .ok (.aload_n 1, 1) := by decide +kernel
theorem dX4_tryBegin_34 : decode cX4_tryBegin 34 = .ok (.aload_n 1, 1) := by decide +kernel
theorem dX4_tryBegin_35 : decode cX4_tryBegin 35 = .ok (.getfield 65, 3) := by decide +kernel
theorem dX4_tryBegin_38 : decode cX4_tryBegin 38 = .ok (.iload_n 2, 1) := by decide +kernel
theorem dX4_tryBegin_39 : decode cX4_tryBegin 39 = .ok (.aaload, 1) := by decide +kernel
theorem dX4_tryBegin_40 : decode cX4_tryBegin 40 = .ok (.iload_n 3, 1) := by decide +kernel
theorem dX4_tryBegin_41 : decode cX4_tryBegin 41 = .ok (.invokevirtual 69, 3) := by decide +kernel
theorem dX4_tryBegin_44 : decode cX4_tryBegin 44 = .ok (.iadd, 1) := by decide +kernel
theorem dX4_tryBegin_45 : decode cX4_tryBegin 45 = .ok (.istore 6, 2) := by decide +kernel
theorem dX4_tryBegin_47 : decode cX4_tryBegin 47 = .ok (.aload_n 0, 1) := by decide +kernel
theorem dX4_tryBegin_48 : decode cX4_tryBegin 48 = .ok (.getfield 15, 3) := by decide +kernel
theorem dX4_tryBegin_51 : decode cX4_tryBegin 51 = .ok (.iload_n 2, 1) := by decide +kernel
theorem dX4_tryBegin_52 : decode cX4_tryBegin 52 = .ok (.dup2, 1) := by decide +kernel
theorem dX4_tryBegin_53 : decode cX4_tryBegin 53 = .ok (.iaload, 1) := by decide +kernel
theorem dX4_tryBegin_54 : decode cX4_tryBegin 54 = .ok (.iload 4, 2) := by decide +kernel
theorem dX4_tryBegin_56 : decode cX4_tryBegin 56 = .ok (.aload_n 0, 1) := by decide +kernel
theorem dX4_tryBegin_57 : decode cX4_tryBegin 57 = .ok (.getfield 23, 3) := by decide +kernel
theorem dX4_tryBegin_60 : decode cX4_tryBegin 60 = .ok (.iload_n 2, 1) := by decide +kernel
theorem dX4_tryBegin_61 : decode cX4_tryBegin 61 = .ok (.iaload, 1) := by decide +kernel
theorem dX4_tryBegin_62 : decode cX4_tryBegin 62 = .ok (.isub, 1) := by decide +kernel
theorem dX4_tryBegin_63 : decode cX4_tryBegin 63 = .ok (.iadd, 1) := by decide +kernel
theorem dX4_tryBegin_64 : decode cX4_tryBegin 64 = .ok (.iastore, 1) := by decide +kernel
theorem dX4_tryBegin_65 : decode cX4_tryBegin 65 = .ok (.aload_n 0, 1) := by decide +kernel
theorem dX4_tryBegin_66 : decode cX4_tryBegin 66 = .ok (.getfield 20, 3) := by decide +kernel
theorem dX4_tryBegin_69 : decode cX4_tryBegin 69 = .ok (.iload_n 2, 1) := by decide +kernel
theorem dX4_tryBegin_70 : decode cX4_tryBegin 70 = .ok (.aaload, 1) := by decide +kernel
theorem dX4_tryBegin_71 : decode cX4_tryBegin 71 = .ok (.aload_n 0, 1) := by decide +kernel
theorem dX4_tryBegin_72 : decode cX4_tryBegin 72 = .ok (.getfield 9, 3) := by decide +kernel
theorem dX4_tryBegin_75 : decode cX4_tryBegin 75 = .ok (.iload_n 2, 1) := by decide +kernel
theorem dX4_tryBegin_76 : decode cX4_tryBegin 76 = .ok (.iaload, 1) := by decide +kernel
theorem dX4_tryBegin_77 : decode cX4_tryBegin 77 = .ok (.iload 4, 2) := by decide +kernel
theorem dX4_tryBegin_79 : decode cX4_tryBegin 79 = .ok (.iastore, 1) := by decide +kernel
theorem dX4_tryBegin_80 : decode cX4_tryBegin 80 = .ok (.aload_n 0, 1) := by decide +kernel
theorem dX4_tryBegin_81 : decode cX4_tryBegin 81 = .ok (.getfield 9, 3) := by decide +kernel
theorem dX4_tryBegin_84 : decode cX4_tryBegin 84 = .ok (.iload_n 2, 1) := by decide +kernel
theorem dX4_tryBegin_85 : decode cX4_tryBegin 85 = .ok (.dup2, 1) := by decide +kernel
theorem dX4_tryBegin_86 : decode cX4_tryBegin 86 = .ok (.iaload, 1) := by decide +kernel
theorem dX4_tryBegin_87 : decode cX4_tryBegin 87 = .ok (.iconst 1, 1) := by decide +kernel
theorem dX4_tryBegin_88 : decode cX4_tryBegin 88 = .ok (.iadd, 1) := by decide +kernel
theorem dX4_tryBegin_89 : decode cX4_tryBegin 89 = .ok (.iastore, 1) := by decide +kernel
theorem dX4_tryBegin_90 : decode cX4_tryBegin 90 = .ok (.aload_n 0, 1) := by decide +kernel
theorem dX4_tryBegin_91 : decode cX4_tryBegin 91 = .ok (.getfield 23, 3) := by decide +kernel
theorem dX4_tryBegin_94 : decode cX4_tryBegin 94 = .ok (.iload_n 2, 1) := by decide +kernel
theorem dX4_tryBegin_95 : decode cX4_tryBegin 95 = .ok (.iload 6, 2) := by decide +kernel
theorem dX4_tryBegin_97 : decode cX4_tryBegin 97 = .ok (.iastore, 1) := by decide +kernel
theorem dX4_tryBegin_98 : decode cX4_tryBegin 98 = .ok (.aload_n 0, 1) := by decide +kernel
theorem dX4_tryBegin_99 : decode cX4_tryBegin 99 = .ok (.aload_n 0, 1) := by decide +kernel
theorem dX4_tryBegin_100 : decode cX4_tryBegin 100 = .ok (.getfield 36, 3) := by decide +kernel
theorem dX4_tryBegin_103 : decode cX4_tryBegin 103 = .ok (.iload 6, 2) := by decide +kernel
theorem dX4_tryBegin_105 : decode cX4_tryBegin 105 = .ok (.invokestatic 73, 3) := by decide +kernel
theorem dX4_tryBegin_108 : decode cX4_tryBegin 108 = .ok (.putfield 36, 3) := by decide +kernel
theorem dX4_tryBegin_111 : decode cX4_tryBegin 111 = .ok (.iload 5, 2) := by decide +kernel
theorem dX4_tryBegin_113 : decode cX4_tryBegin 113 = .ok (.iconst (-1), 1) := by decide +kernel
theorem dX4_tryBegin_114 : decode cX4_tryBegin 114 = .ok (.if_icmp .eq 12, 3) := by decide +kernel
theorem dX4_tryBegin_117 : decode cX4_tryBegin 117 = .ok (.aload_n 0, 1) := by decide +kernel
theorem dX4_tryBegin_118 : decode cX4_tryBegin 118 = .ok (.getfield 26, 3) := by decide +kernel
theorem dX4_tryBegin_121 : decode cX4_tryBegin 121 = .ok (.iload 5, 2) := by decide +kernel
theorem dX4_tryBegin_123 : decode cX4_tryBegin 123 = .ok (.iload 6, 2) := by decide +kernel
theorem dX4_tryBegin_125 : decode cX4_tryBegin 125 = .ok (.iastore, 1) := by decide +kernel
theorem dX4_tryBegin_126 : decode cX4_tryBegin 126 = .ok (.iconst 1, 1) := by decide +kernel
theorem dX4_tryBegin_127 : decode cX4_tryBegin 127 = .ok (.ireturn, 1) := by decide +kernel
theorem dX5_init_0 : decode cX5_init 0 = .ok (.aload_n 0, 1) := by decide +kernel
theorem dX5_init_1 : decode cX5_init 1 = .ok (.invokespecial 3, 3) := by decide +kernel
theorem dX5_init_4 : decode cX5_init 4 = .ok (.aload_n 0, 1) := by decide +kernel
theorem dX5_init_5 : decode cX5_init 5 = .ok (.sipush 900, 3) := by decide +kernel
theorem dX5_init_8 : decode cX5_init 8 = .ok (.newarray .byte, 2) := by decide +kernel
theorem dX5_init_10 : decode cX5_init 10 = .ok (.putfield 9, 3) := by decide +kernel
theorem dX5_init_13 : decode cX5_init 13 = .ok (.aload_n 0, 1) := by decide +kernel
theorem dX5_init_14 : decode cX5_init 14 = .ok (.bipush 23, 2) := by decide +kernel
theorem dX5_init_16 : decode cX5_init 16 = .ok (.newarray .long, 2) := by decide +kernel
theorem dX5_init_18 : decode cX5_init 18 = .ok (.putfield 15, 3) := by decide +kernel
theorem dX5_init_21 : decode cX5_init 21 = .ok (.iconst 0, 1) := by decide +kernel
theorem dX5_init_22 : decode cX5_init 22 = .ok (.istore_n 1, 1) := by decide +kernel
theorem dX5_init_23 : decode cX5_init 23 = .ok (.lconst 0, 1) := by decide +kernel
theorem dX5_init_24 : decode cX5_init 24 = .ok (.lstore_n 2, 1) := by decide +kernel
theorem dX5_init_25 : decode cX5_init 25 = .ok (.iconst 0, 1) := by decide +kernel
theorem dX5_init_26 : decode cX5_init 26 = .ok (.istore 4, 2) := by decide +kernel
theorem dX5_init_28 : decode cX5_init 28 = .ok (.iload 4, 2) := by decide +kernel
theorem dX5_init_30 : decode cX5_init 30 = .ok (.ldc 19, 2) := by decide +kernel
theorem dX5_init_32 : decode cX5_init 32 = .ok (.invokevirtual 21, 3) := by decide +kernel
theorem dX5_init_35 : decode cX5_init 35 = .ok (.if_icmp .ge 61, 3) := by decide +kernel
theorem dX5_init_38 : decode cX5_init 38 = .ok (.iload_n 1, 1) := by decide +kernel
theorem dX5_init_39 : decode cX5_init 39 = .ok (.bipush 23, 2) := by decide +kernel
theorem dX5_init_41 : decode cX5_init 41 = .ok (.if_icmp .ge 55, 3) := by decide +kernel
theorem dX5_init_44 : decode cX5_init 44 = .ok (.ldc 19, 2) := by decide +kernel
theorem dX5_init_46 : decode cX5_init 46 = .ok (.iload 4, 2) := by decide +kernel
theorem dX5_init_48 : decode cX5_init 48 = .ok (.invokevirtual 27, 3) := by decide +kernel
theorem dX5_init_51 : decode cX5_init 51 = .ok (.istore 5, 2) := by decide +kernel
theorem dX5_init_53 : decode cX5_init 53 = .ok (.iload 5, 2) := by decide +kernel
theorem dX5_init_55 : decode cX5_init 55 = .ok (.bipush 32, 2) := by decide +kernel
theorem dX5_init_57 : decode cX5_init 57 = .ok (.if_icmp .ne 18, 3) := by decide +kernel
theorem dX5_init_60 : decode cX5_init 60 = .ok (.aload_n 0, 1) := by decide +kernel
theorem dX5_init_61 : decode cX5_init 61 = .ok (.getfield 15, 3) := by decide +kernel
theorem dX5_init_64 : decode cX5_init 64 = .ok (.iload_n 1, 1) := by decide +kernel
theorem dX5_init_65 : decode cX5_init 65 = .ok (.lload_n 2, 1) := by decide +kernel
theorem dX5_init_66 : decode cX5_init 66 = .ok (.lastore, 1) := by decide +kernel
theorem dX5_init_67 : decode cX5_init 67 = .ok (.iinc 1 1, 3) := by decide +kernel
theorem dX5_init_70 : decode cX5_init 70 = .ok (.lconst 0, 1) := by decide +kernel
theorem dX5_init_71 : decode cX5_init 71 = .ok (.lstore_n 2, 1) := by decide +kernel
theorem dX5_init_72 : decode cX5_init 72 = .ok (.goto 18, 3) := by decide +kernel
theorem dX5_init_75 : decode cX5_init 75 = .ok (.lload_n 2, 1) := by decide +kernel
theorem dX5_init_76 : decode cX5_init 76 = .ok (.ldc2_w 31, 3) := by decide +kernel
theorem dX5_init_79 : decode cX5_init 79 = .ok (.lmul, 1) := by decide +kernel
theorem dX5_init_80 : decode cX5_init 80 = .ok (.iload 5, 2) := by decide +kernel
theorem dX5_init_82 : decode cX5_init 82 = .ok (.bipush 97, 2) := by decide +kernel
theorem dX5_init_84 : decode cX5_init 84 = .ok (.isub, 1) := by decide +kernel
theorem dX5_init_85 : decode cX5_init 85 = .ok (.iconst 1, 1) := by decide +kernel
theorem dX5_init_86 : decode cX5_init 86 = .ok (.iadd, 1) := by decide +kernel
theorem dX5_init_87 : decode cX5_init 87 = .ok (.i2l, 1) := by decide +kernel
theorem dX5_init_88 : decode cX5_init 88 = .ok (.ladd, 1) := by decide +kernel
theorem dX5_init_89 : decode cX5_init 89 = .ok (.lstore_n 2, 1) := by decide +kernel
theorem dX5_init_90 : decode cX5_init 90 = .ok (.iinc 4 1, 3) := by decide +kernel
theorem dX5_init_93 : decode cX5_init 93 = .ok (.goto (-65), 3) := by decide +kernel
theorem dX5_init_96 : decode cX5_init 96 = .ok (.return_, 1) := by decide +kernel
theorem dX5_takeIn_0 : decode cX5_takeIn 0 = .ok (.bipush 24, 2) := by decide +kernel
theorem dX5_takeIn_2 : decode cX5_takeIn 2 = .ok (.istore_n 2, 1) := by decide +kernel
theorem dX5_takeIn_3 : decode cX5_takeIn 3 = .ok (.iload_n 2, 1) := by decide +kernel
theorem dX5_takeIn_4 : decode cX5_takeIn 4 = .ok (.ifCond .lt 42, 3) := by decide +kernel
theorem dX5_takeIn_7 : decode cX5_takeIn 7 = .ok (.aload_n 0, 1) := by decide +kernel
theorem dX5_takeIn_8 : decode cX5_takeIn 8 = .ok (.getfield 33, 3) := by decide +kernel
theorem dX5_takeIn_11 : decode cX5_takeIn 11 = .ok (.sipush 900, 3) := by decide +kernel
theorem dX5_takeIn_14 : decode cX5_takeIn 14 = .ok (.if_icmp .ge 32, 3) := by decide +kernel
theorem dX5_takeIn_17 : decode cX5_takeIn 17 = .ok (.aload_n 0, 1) := by decide +kernel
theorem dX5_takeIn_18 : decode cX5_takeIn 18 = .ok (.getfield 9, 3) := by decide +kernel
theorem dX5_takeIn_21 : decode cX5_takeIn 21 = .ok (.aload_n 0, 1) := by decide +kernel
theorem dX5_takeIn_22 : decode cX5_takeIn 22 = .ok (.getfield 33, 3) := by decide +kernel
theorem dX5_takeIn_25 : decode cX5_takeIn 25 = .ok (.iload_n 1, 1) := by decide +kernel
theorem dX5_takeIn_26 : decode cX5_takeIn 26 = .ok (.iload_n 2, 1) := by decide +kernel
theorem dX5_takeIn_27 : decode cX5_takeIn 27 = .ok (.ishr, 1) := by decide +kernel
theorem dX5_takeIn_28 : decode cX5_takeIn 28 = .ok (.i2b, 1) := by decide +kernel
theorem dX5_takeIn_29 : decode cX5_takeIn 29 = .ok (.bastore, 1) := by decide +kernel
theorem dX5_takeIn_30 : decode cX5_takeIn 30 = .ok (.aload_n 0, 1) := by decide +kernel
theorem dX5_takeIn_31 : decode cX5_takeIn 31 = .ok (.dup, 1) := by decide +kernel
theorem dX5_takeIn_32 : decode cX5_takeIn 32 = .ok (.getfield 33, 3) := by decide +kernel
theorem dX5_takeIn_35 : decode cX5_takeIn 35 = .ok (.iconst 1, 1) := by decide +kernel
theorem dX5_takeIn_36 : decode cX5_takeIn 36 = .ok (.iadd, 1) := by decide +kernel
theorem dX5_takeIn_37 : decode cX5_takeIn 37 = .ok (.putfield 33, 3) := by decide +kernel
theorem dX5_takeIn_40 : decode cX5_takeIn 40 = .ok (.iinc 2 (-8), 3) := by decide +kernel
theorem dX5_takeIn_43 : decode cX5_takeIn 43 = .ok (.goto (-40), 3) := by decide +kernel
theorem dX5_takeIn_46 : decode cX5_takeIn 46 = .ok (.return_, 1) := by decide +kernel
theorem dX5_begin_0 : decode cX5_begin 0 = .ok (.aload_n 0, 1) := by decide +kernel
theorem dX5_begin_1 : decode cX5_begin 1 = .ok (.iload_n 1, 1) := by decide +kernel
theorem dX5_begin_2 : decode cX5_begin 2 = .ok (.putfield 37, 3) := by decide +kernel
theorem dX5_begin_5 : decode cX5_begin 5 = .ok (.aload_n 0, 1) := by decide +kernel
theorem dX5_begin_6 : decode cX5_begin 6 = .ok (.iconst 0, 1) := by decide +kernel
theorem dX5_begin_7 : decode cX5_begin 7 = .ok (.putfield 40, 3) := by decide +kernel
theorem dX5_begin_10 : decode cX5_begin 10 = .ok (.aload_n 0, 1) := by decide +kernel
theorem dX5_begin_11 : decode cX5_begin 11 = .ok (.iconst 0, 1) := by decide +kernel
theorem dX5_begin_12 : decode cX5_begin 12 = .ok (.putfield 43, 3) := by decide +kernel
theorem dX5_begin_15 : decode cX5_begin 15 = .ok (.aload_n 0, 1) := by decide +kernel
theorem dX5_begin_16 : decode cX5_begin 16 = .ok (.iconst (-1), 1) := by decide +kernel
theorem dX5_begin_17 : decode cX5_begin 17 = .ok (.putfield 46, 3) := by decide +kernel
theorem dX5_begin_20 : decode cX5_begin 20 = .ok (.aload_n 0, 1) := by decide +kernel
theorem dX5_begin_21 : decode cX5_begin 21 = .ok (.invokevirtual 49, 3) := by decide +kernel
theorem dX5_begin_24 : decode cX5_begin 24 = .ok (.return_, 1) := by decide +kernel
theorem dX5_advance_0 : decode cX5_advance 0 = .ok (.aload_n 0, 1) := by decide +kernel
theorem dX5_advance_1 : decode cX5_advance 1 = .ok (.getfield 40, 3) := by decide +kernel
theorem dX5_advance_4 : decode cX5_advance 4 = .ok (.aload_n 0, 1) := by decide +kernel
theorem dX5_advance_5 : decode cX5_advance 5 = .ok (.getfield 37, 3) := by decide +kernel
theorem dX5_advance_8 : decode cX5_advance 8 = .ok (.if_icmp .ge 44, 3) := by decide +kernel
theorem dX5_advance_11 : decode cX5_advance 11 = .ok (.aload_n 0, 1) := by decide +kernel
theorem dX5_advance_12 : decode cX5_advance 12 = .ok (.getfield 9, 3) := by decide +kernel
theorem dX5_advance_15 : decode cX5_advance 15 = .ok (.aload_n 0, 1) := by decide +kernel
theorem dX5_advance_16 : decode cX5_advance 16 = .ok (.getfield 40, 3) := by decide +kernel
theorem dX5_advance_19 : decode cX5_advance 19 = .ok (.baload, 1) := by decide +kernel
theorem dX5_advance_20 : decode cX5_advance 20 = .ok (.bipush 32, 2) := by decide +kernel
theorem dX5_advance_22 : decode cX5_advance 22 = .ok (.if_icmp .eq 17, 3) := by decide +kernel
theorem dX5_advance_25 : decode cX5_advance 25 = .ok (.aload_n 0, 1) := by decide +kernel
theorem dX5_advance_26 : decode cX5_advance 26 = .ok (.getfield 9, 3) := by decide +kernel
theorem dX5_advance_29 : decode cX5_advance 29 = .ok (.aload_n 0, 1) := by decide +kernel
theorem dX5_advance_30 : decode cX5_advance 30 = .ok (.getfield 40, 3) := by decide +kernel
theorem dX5_advance_33 : decode cX5_advance 33 = .ok (.baload, 1) := by decide +kernel
theorem dX5_advance_34 : decode cX5_advance 34 = .ok (.bipush 10, 2) := by decide +kernel
theorem dX5_advance_36 : decode cX5_advance 36 = .ok (.if_icmp .ne 16, 3) := by decide +kernel
theorem dX5_advance_39 : decode cX5_advance 39 = .ok (.aload_n 0, 1) := by decide +kernel
theorem dX5_advance_40 : decode cX5_advance 40 = .ok (.dup, 1) := by decide +kernel
theorem dX5_advance_41 : decode cX5_advance 41 = .ok (.getfield 40, 3) := by decide +kernel
theorem dX5_advance_44 : decode cX5_advance 44 = .ok (.iconst 1, 1) := by decide +kernel
theorem dX5_advance_45 : decode cX5_advance 45 = .ok (.iadd, 1) := by decide +kernel
theorem dX5_advance_46 : decode cX5_advance 46 = .ok (.putfield 40, 3) := by decide +kernel
theorem dX5_advance_49 : decode cX5_advance 49 = .ok (.goto (-49), 3) := by decide +kernel
theorem dX5_advance_52 : decode cX5_advance 52 = .ok (.aload_n 0, 1) := by decide +kernel
theorem dX5_advance_53 : decode cX5_advance 53 = .ok (.aload_n 0, 1) := by decide +kernel
theorem dX5_advance_54 : decode cX5_advance 54 = .ok (.getfield 40, 3) := by decide +kernel
theorem dX5_advance_57 : decode cX5_advance 57 = .ok (.putfield 52, 3) := by decide +kernel
theorem dX5_advance_60 : decode cX5_advance 60 = .ok (.aload_n 0, 1) := by decide +kernel
theorem dX5_advance_61 : decode cX5_advance 61 = .ok (.lconst 0, 1) := by decide +kernel
theorem dX5_advance_62 : decode cX5_advance 62 = .ok (.putfield 55, 3) := by decide +kernel
theorem dX5_advance_65 : decode cX5_advance 65 = .ok (.aload_n 0, 1) := by decide +kernel
theorem dX5_advance_66 : decode cX5_advance 66 = .ok (.iconst (-1), 1) := by decide +kernel
theorem dX5_advance_67 : decode cX5_advance 67 = .ok (.putfield 59, 3) := by decide +kernel
theorem dX5_advance_70 : decode cX5_advance 70 = .ok (.aload_n 0, 1) := by decide +kernel
theorem dX5_advance_71 : decode cX5_advance 71 = .ok (.getfield 40, 3) := by decide +kernel
theorem dX5_advance_74 : decode cX5_advance 74 = .ok (.aload_n 0, 1) := by decide +kernel
theorem dX5_advance_75 : decode cX5_advance 75 = .ok (.getfield 37, 3) := by decide +kernel
theorem dX5_advance_78 : decode cX5_advance 78 = .ok (.if_icmp .lt 11, 3) := by decide +kernel
theorem dX5_advance_81 : decode cX5_advance 81 = .ok (.aload_n 0, 1) := by decide +kernel
theorem dX5_advance_82 : decode cX5_advance 82 = .ok (.iconst 0, 1) := by decide +kernel
theorem dX5_advance_83 : decode cX5_advance 83 = .ok (.putfield 62, 3) := by decide +kernel
theorem dX5_advance_86 : decode cX5_advance 86 = .ok (.goto 166, 3) := by decide +kernel
theorem dX5_advance_89 : decode cX5_advance 89 = .ok (.aload_n 0, 1) := by decide +kernel
theorem dX5_advance_90 : decode cX5_advance 90 = .ok (.getfield 9, 3) := by decide +kernel
theorem dX5_advance_93 : decode cX5_advance 93 = .ok (.aload_n 0, 1) := by decide +kernel
theorem dX5_advance_94 : decode cX5_advance 94 = .ok (.getfield 40, 3) := by decide +kernel
theorem dX5_advance_97 : decode cX5_advance 97 = .ok (.baload, 1) := by decide +kernel
theorem dX5_advance_98 : decode cX5_advance 98 = .ok (.bipush 97, 2) := by decide +kernel
theorem dX5_advance_100 : decode cX5_advance 100 = .ok (.if_icmp .lt 24, 3) := by decide +kernel
theorem dX5_advance_103 : decode cX5_advance 103 = .ok (.aload_n 0, 1) := by decide +kernel
theorem dX5_advance_104 : decode cX5_advance 104 = .ok (.getfield 9, 3) := by decide +kernel
theorem dX5_advance_107 : decode cX5_advance 107 = .ok (.aload_n 0, 1) := by decide +kernel
theorem dX5_advance_108 : decode cX5_advance 108 = .ok (.getfield 40, 3) := by decide +kernel
theorem dX5_advance_111 : decode cX5_advance 111 = .ok (.baload, 1) := by decide +kernel
theorem dX5_advance_112 : decode cX5_advance 112 = .ok (.bipush 122, 2) := by decide +kernel
theorem dX5_advance_114 : decode cX5_advance 114 = .ok (.if_icmp .gt 10, 3) := by decide +kernel
theorem dX5_advance_117 : decode cX5_advance 117 = .ok (.aload_n 0, 1) := by decide +kernel
theorem dX5_advance_118 : decode cX5_advance 118 = .ok (.invokevirtual 65, 3) := by decide +kernel
theorem dX5_advance_121 : decode cX5_advance 121 = .ok (.goto 131, 3) := by decide +kernel
theorem dX5_advance_124 : decode cX5_advance 124 = .ok (.aload_n 0, 1) := by decide +kernel
theorem dX5_advance_125 : decode cX5_advance 125 = .ok (.getfield 9, 3) := by decide +kernel
theorem dX5_advance_128 : decode cX5_advance 128 = .ok (.aload_n 0, 1) := by decide +kernel
theorem dX5_advance_129 : decode cX5_advance 129 = .ok (.getfield 40, 3) := by decide +kernel
theorem dX5_advance_132 : decode cX5_advance 132 = .ok (.baload, 1) := by decide +kernel
theorem dX5_advance_133 : decode cX5_advance 133 = .ok (.bipush 48, 2) := by decide +kernel
theorem dX5_advance_135 : decode cX5_advance 135 = .ok (.if_icmp .lt 24, 3) := by decide +kernel
theorem dX5_advance_138 : decode cX5_advance 138 = .ok (.aload_n 0, 1) := by decide +kernel
theorem dX5_advance_139 : decode cX5_advance 139 = .ok (.getfield 9, 3) := by decide +kernel
theorem dX5_advance_142 : decode cX5_advance 142 = .ok (.aload_n 0, 1) := by decide +kernel
theorem dX5_advance_143 : decode cX5_advance 143 = .ok (.getfield 40, 3) := by decide +kernel
theorem dX5_advance_146 : decode cX5_advance 146 = .ok (.baload, 1) := by decide +kernel
theorem dX5_advance_147 : decode cX5_advance 147 = .ok (.bipush 57, 2) := by decide +kernel
theorem dX5_advance_149 : decode cX5_advance 149 = .ok (.if_icmp .gt 10, 3) := by decide +kernel
theorem dX5_advance_152 : decode cX5_advance 152 = .ok (.aload_n 0, 1) := by decide +kernel
theorem dX5_advance_153 : decode cX5_advance 153 = .ok (.invokevirtual 68, 3) := by decide +kernel
theorem dX5_advance_156 : decode cX5_advance 156 = .ok (.goto 96, 3) := by decide +kernel
theorem dX5_advance_159 : decode cX5_advance 159 = .ok (.aload_n 0, 1) := by decide +kernel
theorem dX5_advance_160 : decode cX5_advance 160 = .ok (.getfield 9, 3) := by decide +kernel
theorem dX5_advance_163 : decode cX5_advance 163 = .ok (.aload_n 0, 1) := by decide +kernel
theorem dX5_advance_164 : decode cX5_advance 164 = .ok (.getfield 40, 3) := by decide +kernel
theorem dX5_advance_167 : decode cX5_advance 167 = .ok (.baload, 1) := by decide +kernel
theorem dX5_advance_168 : decode cX5_advance 168 = .ok (.bipush 59, 2) := by decide +kernel
theorem dX5_advance_170 : decode cX5_advance 170 = .ok (.if_icmp .eq 45, 3) := by decide +kernel
theorem dX5_advance_173 : decode cX5_advance 173 = .ok (.aload_n 0, 1) := by decide +kernel
theorem dX5_advance_174 : decode cX5_advance 174 = .ok (.getfield 9, 3) := by decide +kernel
theorem dX5_advance_177 : decode cX5_advance 177 = .ok (.aload_n 0, 1) := by decide +kernel
theorem dX5_advance_178 : decode cX5_advance 178 = .ok (.getfield 40, 3) := by decide +kernel
theorem dX5_advance_181 : decode cX5_advance 181 = .ok (.baload, 1) := by decide +kernel
theorem dX5_advance_182 : decode cX5_advance 182 = .ok (.bipush 60, 2) := by decide +kernel
theorem dX5_advance_184 : decode cX5_advance 184 = .ok (.if_icmp .eq 31, 3) := by decide +kernel
theorem dX5_advance_187 : decode cX5_advance 187 = .ok (.aload_n 0, 1) := by decide +kernel
theorem dX5_advance_188 : decode cX5_advance 188 = .ok (.getfield 9, 3) := by decide +kernel
theorem dX5_advance_191 : decode cX5_advance 191 = .ok (.aload_n 0, 1) := by decide +kernel
theorem dX5_advance_192 : decode cX5_advance 192 = .ok (.getfield 40, 3) := by decide +kernel
theorem dX5_advance_195 : decode cX5_advance 195 = .ok (.baload, 1) := by decide +kernel
theorem dX5_advance_196 : decode cX5_advance 196 = .ok (.bipush 62, 2) := by decide +kernel
theorem dX5_advance_198 : decode cX5_advance 198 = .ok (.if_icmp .eq 17, 3) := by decide +kernel
theorem dX5_advance_201 : decode cX5_advance 201 = .ok (.aload_n 0, 1) := by decide +kernel
theorem dX5_advance_202 : decode cX5_advance 202 = .ok (.getfield 9, 3) := by decide +kernel
theorem dX5_advance_205 : decode cX5_advance 205 = .ok (.aload_n 0, 1) := by decide +kernel
theorem dX5_advance_206 : decode cX5_advance 206 = .ok (.getfield 40, 3) := by decide +kernel
theorem dX5_advance_209 : decode cX5_advance 209 = .ok (.baload, 1) := by decide +kernel
theorem dX5_advance_210 : decode cX5_advance 210 = .ok (.bipush 61, 2) := by decide +kernel
theorem dX5_advance_212 : decode cX5_advance 212 = .ok (.if_icmp .ne 35, 3) := by decide +kernel
theorem dX5_advance_215 : decode cX5_advance 215 = .ok (.aload_n 0, 1) := by decide +kernel
theorem dX5_advance_216 : decode cX5_advance 216 = .ok (.iconst 3, 1) := by decide +kernel
theorem dX5_advance_217 : decode cX5_advance 217 = .ok (.putfield 62, 3) := by decide +kernel
theorem dX5_advance_220 : decode cX5_advance 220 = .ok (.aload_n 0, 1) := by decide +kernel
theorem dX5_advance_221 : decode cX5_advance 221 = .ok (.aload_n 0, 1) := by decide +kernel
theorem dX5_advance_222 : decode cX5_advance 222 = .ok (.getfield 9, 3) := by decide +kernel
theorem dX5_advance_225 : decode cX5_advance 225 = .ok (.aload_n 0, 1) := by decide +kernel
theorem dX5_advance_226 : decode cX5_advance 226 = .ok (.getfield 40, 3) := by decide +kernel
theorem dX5_advance_229 : decode cX5_advance 229 = .ok (.baload, 1) := by decide +kernel
theorem dX5_advance_230 : decode cX5_advance 230 = .ok (.i2l, 1) := by decide +kernel
theorem dX5_advance_231 : decode cX5_advance 231 = .ok (.putfield 55, 3) := by decide +kernel
theorem dX5_advance_234 : decode cX5_advance 234 = .ok (.aload_n 0, 1) := by decide +kernel
theorem dX5_advance_235 : decode cX5_advance 235 = .ok (.dup, 1) := by decide +kernel
theorem dX5_advance_236 : decode cX5_advance 236 = .ok (.getfield 40, 3) := by decide +kernel
theorem dX5_advance_239 : decode cX5_advance 239 = .ok (.iconst 1, 1) := by decide +kernel
theorem dX5_advance_240 : decode cX5_advance 240 = .ok (.iadd, 1) := by decide +kernel
theorem dX5_advance_241 : decode cX5_advance 241 = .ok (.putfield 40, 3) := by decide +kernel
theorem dX5_advance_244 : decode cX5_advance 244 = .ok (.goto 8, 3) := by decide +kernel
theorem dX5_advance_247 : decode cX5_advance 247 = .ok (.aload_n 0, 1) := by decide +kernel
theorem dX5_advance_248 : decode cX5_advance 248 = .ok (.iconst 4, 1) := by decide +kernel
theorem dX5_advance_249 : decode cX5_advance 249 = .ok (.putfield 62, 3) := by decide +kernel
theorem dX5_advance_252 : decode cX5_advance 252 = .ok (.return_, 1) := by decide +kernel
theorem dX5_advanceWord_0 : decode cX5_advanceWord 0 = .ok (.aload_n 0, 1) := by decide +kernel
theorem dX5_advanceWord_1 : decode cX5_advanceWord 1 = .ok (.getfield 40, 3) := by decide +kernel
theorem dX5_advanceWord_4 : decode cX5_advanceWord 4 = .ok (.aload_n 0, 1) := by decide +kernel
theorem dX5_advanceWord_5 : decode cX5_advanceWord 5 = .ok (.getfield 37, 3) := by decide +kernel
theorem dX5_advanceWord_8 : decode cX5_advanceWord 8 = .ok (.if_icmp .ge 86, 3) := by decide +kernel
theorem dX5_advanceWord_11 : decode cX5_advanceWord 11 = .ok (.aload_n 0, 1) := by decide +kernel
theorem dX5_advanceWord_12 : decode cX5_advanceWord 12 = .ok (.getfield 9, 3) := by decide +kernel
theorem dX5_advanceWord_15 : decode cX5_advanceWord 15 = .ok (.aload_n 0, 1) := by decide +kernel
theorem dX5_advanceWord_16 : decode cX5_advanceWord 16 = .ok (.getfield 40, 3) := by decide +kernel
theorem dX5_advanceWord_19 : decode cX5_advanceWord 19 = .ok (.baload, 1) := by decide +kernel
theorem dX5_advanceWord_20 : decode cX5_advanceWord 20 = .ok (.bipush 97, 2) := by decide +kernel
theorem dX5_advanceWord_22 : decode cX5_advanceWord 22 = .ok (.if_icmp .lt 72, 3) := by decide +kernel
theorem dX5_advanceWord_25 : decode cX5_advanceWord 25 = .ok (.aload_n 0, 1) := by decide +kernel
theorem dX5_advanceWord_26 : decode cX5_advanceWord 26 = .ok (.getfield 9, 3) := by decide +kernel
theorem dX5_advanceWord_29 : decode cX5_advanceWord 29 = .ok (.aload_n 0, 1) := by decide +kernel
theorem dX5_advanceWord_30 : decode cX5_advanceWord 30 = .ok (.getfield 40, 3) := by decide +kernel
theorem dX5_advanceWord_33 : decode cX5_advanceWord 33 = .ok (.baload, 1) := by decide +kernel
theorem dX5_advanceWord_34 : decode cX5_advanceWord 34 = .ok (.bipush 122, 2) := by decide +kernel
theorem dX5_advanceWord_36 : decode cX5_advanceWord 36 = .ok (.if_icmp .gt 58, 3) := by decide +kernel
theorem dX5_advanceWord_39 : decode cX5_advanceWord 39 = .ok (.aload_n 0, 1) := by decide +kernel
theorem dX5_advanceWord_40 : decode cX5_advanceWord 40 = .ok (.getfield 40, 3) := by decide +kernel
theorem dX5_advanceWord_43 : decode cX5_advanceWord 43 = .ok (.aload_n 0, 1) := by decide +kernel
theorem dX5_advanceWord_44 : decode cX5_advanceWord 44 = .ok (.getfield 52, 3) := by decide +kernel
theorem dX5_advanceWord_47 : decode cX5_advanceWord 47 = .ok (.isub, 1) := by decide +kernel
theorem dX5_advanceWord_48 : decode cX5_advanceWord 48 = .ok (.bipush 8, 2) := by decide +kernel
theorem dX5_advanceWord_50 : decode cX5_advanceWord 50 = .ok (.if_icmp .ge 31, 3) := by decide +kernel
theorem dX5_advanceWord_53 : decode cX5_advanceWord 53 = .ok (.aload_n 0, 1) := by decide +kernel
theorem dX5_advanceWord_54 : decode cX5_advanceWord 54 = .ok (.aload_n 0, 1) := by decide +kernel
theorem dX5_advanceWord_55 : decode cX5_advanceWord 55 = .ok (.getfield 55, 3) := by decide +kernel
theorem dX5_advanceWord_58 : decode cX5_advanceWord 58 = .ok (.ldc2_w 31, 3) := by decide +kernel
theorem dX5_advanceWord_61 : decode cX5_advanceWord 61 = .ok (.lmul, 1) := by decide +kernel
theorem dX5_advanceWord_62 : decode cX5_advanceWord 62 = .ok (.aload_n 0, 1) := by decide +kernel
theorem dX5_advanceWord_63 : decode cX5_advanceWord 63 = .ok (.getfield 9, 3) := by decide +kernel
theorem dX5_advanceWord_66 : decode cX5_advanceWord 66 = .ok (.aload_n 0, 1) := by decide +kernel
theorem dX5_advanceWord_67 : decode cX5_advanceWord 67 = .ok (.getfield 40, 3) := by decide +kernel
theorem dX5_advanceWord_70 : decode cX5_advanceWord 70 = .ok (.baload, 1) := by decide +kernel
theorem dX5_advanceWord_71 : decode cX5_advanceWord 71 = .ok (.bipush 97, 2) := by decide +kernel
theorem dX5_advanceWord_73 : decode cX5_advanceWord 73 = .ok (.isub, 1) := by decide +kernel
theorem dX5_advanceWord_74 : decode cX5_advanceWord 74 = .ok (.iconst 1, 1) := by decide +kernel
theorem dX5_advanceWord_75 : decode cX5_advanceWord 75 = .ok (.iadd, 1) := by decide +kernel
theorem dX5_advanceWord_76 : decode cX5_advanceWord 76 = .ok (.i2l, 1) := by decide +kernel
theorem dX5_advanceWord_77 : decode cX5_advanceWord 77 = .ok (.ladd, 1) := by decide +kernel
theorem dX5_advanceWord_78 : decode cX5_advanceWord 78 = .ok (.putfield 55, 3) := by decide +kernel
theorem dX5_advanceWord_81 : decode cX5_advanceWord 81 = .ok (.aload_n 0, 1) := by decide +kernel
theorem dX5_advanceWord_82 : decode cX5_advanceWord 82 = .ok (.dup, 1) := by decide +kernel
theorem dX5_advanceWord_83 : decode cX5_advanceWord 83 = .ok (.getfield 40, 3) := by decide +kernel
theorem dX5_advanceWord_86 : decode cX5_advanceWord 86 = .ok (.iconst 1, 1) := by decide +kernel
theorem dX5_advanceWord_87 : decode cX5_advanceWord 87 = .ok (.iadd, 1) := by decide +kernel
theorem dX5_advanceWord_88 : decode cX5_advanceWord 88 = .ok (.putfield 40, 3) := by decide +kernel
theorem dX5_advanceWord_91 : decode cX5_advanceWord 91 = .ok (.goto (-91), 3) := by decide +kernel
theorem dX5_advanceWord_94 : decode cX5_advanceWord 94 = .ok (.aload_n 0, 1) := by decide +kernel
theorem dX5_advanceWord_95 : decode cX5_advanceWord 95 = .ok (.iconst 1, 1) := by decide +kernel
theorem dX5_advanceWord_96 : decode cX5_advanceWord 96 = .ok (.putfield 62, 3) := by decide +kernel
theorem dX5_advanceWord_99 : decode cX5_advanceWord 99 = .ok (.aload_n 0, 1) := by decide +kernel
theorem dX5_advanceWord_100 : decode cX5_advanceWord 100 = .ok (.getfield 40, 3) := by decide +kernel
theorem dX5_advanceWord_103 : decode cX5_advanceWord 103 = .ok (.aload_n 0, 1) := by decide +kernel
theorem dX5_advanceWord_104 : decode cX5_advanceWord 104 = .ok (.getfield 52, 3) := by decide +kernel
theorem dX5_advanceWord_107 : decode cX5_advanceWord 107 = .ok (.isub, 1) := by decide +kernel
theorem dX5_advanceWord_108 : decode cX5_advanceWord 108 = .ok (.bipush 8, 2) := by decide +kernel
theorem dX5_advanceWord_110 : decode cX5_advanceWord 110 = .ok (.if_icmp .le 4, 3) := by decide +kernel
theorem dX5_advanceWord_113 : decode cX5_advanceWord 113 = .ok (.return_, 1) := by decide +kernel
theorem dX5_advanceWord_114 : decode cX5_advanceWord 114 = .ok (.iconst 0, 1) := by decide +kernel
theorem dX5_advanceWord_115 : decode cX5_advanceWord 115 = .ok (.istore_n 1, 1) := by decide +kernel
theorem dX5_advanceWord_116 : decode cX5_advanceWord 116 = .ok (.iload_n 1, 1) := by decide +kernel
theorem dX5_advanceWord_117 : decode cX5_advanceWord 117 = .ok (.bipush 23, 2) := by decide +kernel
theorem dX5_advanceWord_119 : decode cX5_advanceWord 119 = .ok (.if_icmp .ge 28, 3) := by decide +kernel
theorem dX5_advanceWord_122 : decode cX5_advanceWord 122 = .ok (.aload_n 0, 1) := by decide +kernel
theorem dX5_advanceWord_123 : decode cX5_advanceWord 123 = .ok (.getfield 15, 3) := by decide +kernel
theorem dX5_advanceWord_126 : decode cX5_advanceWord 126 = .ok (.iload_n 1, 1) := by decide +kernel
theorem dX5_advanceWord_127 : decode cX5_advanceWord 127 = .ok (.laload, 1) := by decide +kernel
theorem dX5_advanceWord_128 : decode cX5_advanceWord 128 = .ok (.aload_n 0, 1) := by decide +kernel
theorem dX5_advanceWord_129 : decode cX5_advanceWord 129 = .ok (.getfield 55, 3) := by decide +kernel
theorem dX5_advanceWord_132 : decode cX5_advanceWord 132 = .ok (.lcmp, 1) := by decide +kernel
theorem dX5_advanceWord_133 : decode cX5_advanceWord 133 = .ok (.ifCond .ne 8, 3) := by decide +kernel
theorem dX5_advanceWord_136 : decode cX5_advanceWord 136 = .ok (.aload_n 0, 1) := by decide +kernel
theorem dX5_advanceWord_137 : decode cX5_advanceWord 137 = .ok (.iload_n 1, 1) := by decide +kernel
theorem dX5_advanceWord_138 : decode cX5_advanceWord 138 = .ok (.putfield 59, 3) := by decide +kernel
theorem dX5_advanceWord_141 : decode cX5_advanceWord 141 = .ok (.iinc 1 1, 3) := by decide +kernel
theorem dX5_advanceWord_144 : decode cX5_advanceWord 144 = .ok (.goto (-28), 3) := by decide +kernel
theorem dX5_advanceWord_147 : decode cX5_advanceWord 147 = .ok (.return_, 1) := by decide +kernel
theorem dX5_advanceNumber_0 : decode cX5_advanceNumber 0 = .ok (.aload_n 0, 1) := by decide +kernel
theorem dX5_advanceNumber_1 : decode cX5_advanceNumber 1 = .ok (.getfield 40, 3) := by decide +kernel
theorem dX5_advanceNumber_4 : decode cX5_advanceNumber 4 = .ok (.aload_n 0, 1) := by decide +kernel
theorem dX5_advanceNumber_5 : decode cX5_advanceNumber 5 = .ok (.getfield 37, 3) := by decide +kernel
theorem dX5_advanceNumber_8 : decode cX5_advanceNumber 8 = .ok (.if_icmp .ge 83, 3) := by decide +kernel
theorem dX5_advanceNumber_11 : decode cX5_advanceNumber 11 = .ok (.aload_n 0, 1) := by decide +kernel
theorem dX5_advanceNumber_12 : decode cX5_advanceNumber 12 = .ok (.getfield 9, 3) := by decide +kernel
theorem dX5_advanceNumber_15 : decode cX5_advanceNumber 15 = .ok (.aload_n 0, 1) := by decide +kernel
theorem dX5_advanceNumber_16 : decode cX5_advanceNumber 16 = .ok (.getfield 40, 3) := by decide +kernel
theorem dX5_advanceNumber_19 : decode cX5_advanceNumber 19 = .ok (.baload, 1) := by decide +kernel
theorem dX5_advanceNumber_20 : decode cX5_advanceNumber 20 = .ok (.bipush 48, 2) := by decide +kernel
theorem dX5_advanceNumber_22 : decode cX5_advanceNumber 22 = .ok (.if_icmp .lt 69, 3) := by decide +kernel
theorem dX5_advanceNumber_25 : decode cX5_advanceNumber 25 = .ok (.aload_n 0, 1) := by decide +kernel
theorem dX5_advanceNumber_26 : decode cX5_advanceNumber 26 = .ok (.getfield 9, 3) := by decide +kernel
theorem dX5_advanceNumber_29 : decode cX5_advanceNumber 29 = .ok (.aload_n 0, 1) := by decide +kernel
theorem dX5_advanceNumber_30 : decode cX5_advanceNumber 30 = .ok (.getfield 40, 3) := by decide +kernel
theorem dX5_advanceNumber_33 : decode cX5_advanceNumber 33 = .ok (.baload, 1) := by decide +kernel
theorem dX5_advanceNumber_34 : decode cX5_advanceNumber 34 = .ok (.bipush 57, 2) := by decide +kernel
theorem dX5_advanceNumber_36 : decode cX5_advanceNumber 36 = .ok (.if_icmp .gt 55, 3) := by decide +kernel
theorem dX5_advanceNumber_39 : decode cX5_advanceNumber 39 = .ok (.aload_n 0, 1) := by decide +kernel
theorem dX5_advanceNumber_40 : decode cX5_advanceNumber 40 = .ok (.getfield 40, 3) := by decide +kernel
theorem dX5_advanceNumber_43 : decode cX5_advanceNumber 43 = .ok (.aload_n 0, 1) := by decide +kernel
theorem dX5_advanceNumber_44 : decode cX5_advanceNumber 44 = .ok (.getfield 52, 3) := by decide +kernel
theorem dX5_advanceNumber_47 : decode cX5_advanceNumber 47 = .ok (.isub, 1) := by decide +kernel
theorem dX5_advanceNumber_48 : decode cX5_advanceNumber 48 = .ok (.iconst 4, 1) := by decide +kernel
theorem dX5_advanceNumber_49 : decode cX5_advanceNumber 49 = .ok (.if_icmp .ge 29, 3) := by decide +kernel
theorem dX5_advanceNumber_52 : decode cX5_advanceNumber 52 = .ok (.aload_n 0, 1) := by decide +kernel
theorem dX5_advanceNumber_53 : decode cX5_advanceNumber 53 = .ok (.aload_n 0, 1) := by decide +kernel
theorem dX5_advanceNumber_54 : decode cX5_advanceNumber 54 = .ok (.getfield 55, 3) := by decide +kernel
theorem dX5_advanceNumber_57 : decode cX5_advanceNumber 57 = .ok (.ldc2_w 71, 3) := by decide +kernel
theorem dX5_advanceNumber_60 : decode cX5_advanceNumber 60 = .ok (.lmul, 1) := by decide +kernel
theorem dX5_advanceNumber_61 : decode cX5_advanceNumber 61 = .ok (.aload_n 0, 1) := by decide +kernel
theorem dX5_advanceNumber_62 : decode cX5_advanceNumber 62 = .ok (.getfield 9, 3) := by decide +kernel
theorem dX5_advanceNumber_65 : decode cX5_advanceNumber 65 = .ok (.aload_n 0, 1) := by decide +kernel
theorem dX5_advanceNumber_66 : decode cX5_advanceNumber 66 = .ok (.getfield 40, 3) := by decide +kernel
theorem dX5_advanceNumber_69 : decode cX5_advanceNumber 69 = .ok (.baload, 1) := by decide +kernel
theorem dX5_advanceNumber_70 : decode cX5_advanceNumber 70 = .ok (.bipush 48, 2) := by decide +kernel
theorem dX5_advanceNumber_72 : decode cX5_advanceNumber 72 = .ok (.isub, 1) := by decide +kernel
theorem dX5_advanceNumber_73 : decode cX5_advanceNumber 73 = .ok (.i2l, 1) := by decide +kernel
theorem dX5_advanceNumber_74 : decode cX5_advanceNumber 74 = .ok (.ladd, 1) := by decide +kernel
theorem dX5_advanceNumber_75 : decode cX5_advanceNumber 75 = .ok (.putfield 55, 3) := by decide +kernel
theorem dX5_advanceNumber_78 : decode cX5_advanceNumber 78 = .ok (.aload_n 0, 1) := by decide +kernel
theorem dX5_advanceNumber_79 : decode cX5_advanceNumber 79 = .ok (.dup, 1) := by decide +kernel
theorem dX5_advanceNumber_80 : decode cX5_advanceNumber 80 = .ok (.getfield 40, 3) := by decide +kernel
theorem dX5_advanceNumber_83 : decode cX5_advanceNumber 83 = .ok (.iconst 1, 1) := by decide +kernel
theorem dX5_advanceNumber_84 : decode cX5_advanceNumber 84 = .ok (.iadd, 1) := by decide +kernel
theorem dX5_advanceNumber_85 : decode cX5_advanceNumber 85 = .ok (.putfield 40, 3) := by decide +kernel
theorem dX5_advanceNumber_88 : decode cX5_advanceNumber 88 = .ok (.goto (-88), 3) := by decide +kernel
theorem dX5_advanceNumber_91 : decode cX5_advanceNumber 91 = .ok (.aload_n 0, 1) := by decide +kernel
theorem dX5_advanceNumber_92 : decode cX5_advanceNumber 92 = .ok (.aload_n 0, 1) := by decide +kernel
theorem dX5_advanceNumber_93 : decode cX5_advanceNumber 93 = .ok (.getfield 40, 3) := by decide +kernel
theorem dX5_advanceNumber_96 : decode cX5_advanceNumber 96 = .ok (.aload_n 0, 1) := by decide +kernel
theorem dX5_advanceNumber_97 : decode cX5_advanceNumber 97 = .ok (.getfield 52, 3) := by decide +kernel
theorem dX5_advanceNumber_100 : decode cX5_advanceNumber 100 = .ok (.isub, 1) := by decide +kernel
theorem dX5_advanceNumber_101 : decode cX5_advanceNumber 101 = .ok (.iconst 4, 1) := by decide +kernel
theorem dX5_advanceNumber_102 : decode cX5_advanceNumber 102 = .ok (.if_icmp .le 7, 3) := by decide +kernel
theorem dX5_advanceNumber_105 : decode cX5_advanceNumber 105 = .ok (.iconst 4, 1) := by decide +kernel
theorem dX5_advanceNumber_106 : decode cX5_advanceNumber 106 = .ok (.goto 4, 3) := by decide +kernel
theorem dX5_advanceNumber_109 : decode cX5_advanceNumber 109 = .ok (.iconst 2, 1) := by decide +kernel
theorem dX5_advanceNumber_110 : decode cX5_advanceNumber 110 = .ok (.putfield 62, 3) := by decide +kernel
theorem dX5_advanceNumber_113 : decode cX5_advanceNumber 113 = .ok (.return_, 1) := by decide +kernel
theorem dX5_goesOn_0 : decode cX5_goesOn 0 = .ok (.aload_n 0, 1) := by decide +kernel
theorem dX5_goesOn_1 : decode cX5_goesOn 1 = .ok (.getfield 43, 3) := by decide +kernel
theorem dX5_goesOn_4 : decode cX5_goesOn 4 = .ok (.ifCond .ne 14, 3) := by decide +kernel
theorem dX5_goesOn_7 : decode cX5_goesOn 7 = .ok (.aload_n 0, 1) := by decide +kernel
theorem dX5_goesOn_8 : decode cX5_goesOn 8 = .ok (.getfield 62, 3) := by decide +kernel
theorem dX5_goesOn_11 : decode cX5_goesOn 11 = .ok (.ifCond .eq 7, 3) := by decide +kernel
theorem dX5_goesOn_14 : decode cX5_goesOn 14 = .ok (.iconst 1, 1) := by decide +kernel
theorem dX5_goesOn_15 : decode cX5_goesOn 15 = .ok (.goto 4, 3) := by decide +kernel
theorem dX5_goesOn_18 : decode cX5_goesOn 18 = .ok (.iconst 0, 1) := by decide +kernel
theorem dX5_goesOn_19 : decode cX5_goesOn 19 = .ok (.ireturn, 1) := by decide +kernel
theorem dX5_blame_0 : decode cX5_blame 0 = .ok (.aload_n 0, 1) := by decide +kernel
theorem dX5_blame_1 : decode cX5_blame 1 = .ok (.getfield 43, 3) := by decide +kernel
theorem dX5_blame_4 : decode cX5_blame 4 = .ok (.ifCond .ne 16, 3) := by decide +kernel
theorem dX5_blame_7 : decode cX5_blame 7 = .ok (.aload_n 0, 1) := by decide +kernel
theorem dX5_blame_8 : decode cX5_blame 8 = .ok (.iload_n 1, 1) := by decide +kernel
theorem dX5_blame_9 : decode cX5_blame 9 = .ok (.putfield 43, 3) := by decide +kernel
theorem dX5_blame_12 : decode cX5_blame 12 = .ok (.aload_n 0, 1) := by decide +kernel
theorem dX5_blame_13 : decode cX5_blame 13 = .ok (.aload_n 0, 1) := by decide +kernel
theorem dX5_blame_14 : decode cX5_blame 14 = .ok (.getfield 52, 3) := by decide +kernel
theorem dX5_blame_17 : decode cX5_blame 17 = .ok (.putfield 46, 3) := by decide +kernel
theorem dX5_blame_20 : decode cX5_blame 20 = .ok (.return_, 1) := by decide +kernel
theorem dX5_blameMisfit_0 : decode cX5_blameMisfit 0 = .ok (.aload_n 0, 1) := by decide +kernel
theorem dX5_blameMisfit_1 : decode cX5_blameMisfit 1 = .ok (.aload_n 0, 1) := by decide +kernel
theorem dX5_blameMisfit_2 : decode cX5_blameMisfit 2 = .ok (.getfield 62, 3) := by decide +kernel
theorem dX5_blameMisfit_5 : decode cX5_blameMisfit 5 = .ok (.iconst 4, 1) := by decide +kernel
theorem dX5_blameMisfit_6 : decode cX5_blameMisfit 6 = .ok (.if_icmp .ne 7, 3) := by decide +kernel
theorem dX5_blameMisfit_9 : decode cX5_blameMisfit 9 = .ok (.iconst 1, 1) := by decide +kernel
theorem dX5_blameMisfit_10 : decode cX5_blameMisfit 10 = .ok (.goto 4, 3) := by decide +kernel
theorem dX5_blameMisfit_13 : decode cX5_blameMisfit 13 = .ok (.iconst 2, 1) := by decide +kernel
theorem dX5_blameMisfit_14 : decode cX5_blameMisfit 14 = .ok (.invokevirtual 73, 3) := by decide +kernel
theorem dX5_blameMisfit_17 : decode cX5_blameMisfit 17 = .ok (.return_, 1) := by decide +kernel
theorem dX5_isWord_0 : decode cX5_isWord 0 = .ok (.aload_n 0, 1) := by decide +kernel
theorem dX5_isWord_1 : decode cX5_isWord 1 = .ok (.getfield 43, 3) := by decide +kernel
theorem dX5_isWord_4 : decode cX5_isWord 4 = .ok (.ifCond .ne 23, 3) := by decide +kernel
theorem dX5_isWord_7 : decode cX5_isWord 7 = .ok (.aload_n 0, 1) := by decide +kernel
theorem dX5_isWord_8 : decode cX5_isWord 8 = .ok (.getfield 62, 3) := by decide +kernel
theorem dX5_isWord_11 : decode cX5_isWord 11 = .ok (.iconst 1, 1) := by decide +kernel
theorem dX5_isWord_12 : decode cX5_isWord 12 = .ok (.if_icmp .ne 15, 3) := by decide +kernel
theorem dX5_isWord_15 : decode cX5_isWord 15 = .ok (.aload_n 0, 1) := by decide +kernel
theorem dX5_isWord_16 : decode cX5_isWord 16 = .ok (.getfield 59, 3) := by decide +kernel
theorem dX5_isWord_19 : decode cX5_isWord 19 = .ok (.iload_n 1, 1) := by decide +kernel
theorem dX5_isWord_20 : decode cX5_isWord 20 = .ok (.if_icmp .ne 7, 3) := by decide +kernel
theorem dX5_isWord_23 : decode cX5_isWord 23 = .ok (.iconst 1, 1) := by decide +kernel
theorem dX5_isWord_24 : decode cX5_isWord 24 = .ok (.goto 4, 3) := by decide +kernel
theorem dX5_isWord_27 : decode cX5_isWord 27 = .ok (.iconst 0, 1) := by decide +kernel
theorem dX5_isWord_28 : decode cX5_isWord 28 = .ok (.ireturn, 1) := by decide +kernel
theorem dX5_isSign_0 : decode cX5_isSign 0 = .ok (.aload_n 0, 1) := by decide +kernel
theorem dX5_isSign_1 : decode cX5_isSign 1 = .ok (.getfield 43, 3) := by decide +kernel
theorem dX5_isSign_4 : decode cX5_isSign 4 = .ok (.ifCond .ne 25, 3) := by decide +kernel
theorem dX5_isSign_7 : decode cX5_isSign 7 = .ok (.aload_n 0, 1) := by decide +kernel
theorem dX5_isSign_8 : decode cX5_isSign 8 = .ok (.getfield 62, 3) := by decide +kernel
theorem dX5_isSign_11 : decode cX5_isSign 11 = .ok (.iconst 3, 1) := by decide +kernel
theorem dX5_isSign_12 : decode cX5_isSign 12 = .ok (.if_icmp .ne 17, 3) := by decide +kernel
theorem dX5_isSign_15 : decode cX5_isSign 15 = .ok (.aload_n 0, 1) := by decide +kernel
theorem dX5_isSign_16 : decode cX5_isSign 16 = .ok (.getfield 55, 3) := by decide +kernel
theorem dX5_isSign_19 : decode cX5_isSign 19 = .ok (.iload_n 1, 1) := by decide +kernel
theorem dX5_isSign_20 : decode cX5_isSign 20 = .ok (.i2l, 1) := by decide +kernel
theorem dX5_isSign_21 : decode cX5_isSign 21 = .ok (.lcmp, 1) := by decide +kernel
theorem dX5_isSign_22 : decode cX5_isSign 22 = .ok (.ifCond .ne 7, 3) := by decide +kernel
theorem dX5_isSign_25 : decode cX5_isSign 25 = .ok (.iconst 1, 1) := by decide +kernel
theorem dX5_isSign_26 : decode cX5_isSign 26 = .ok (.goto 4, 3) := by decide +kernel
theorem dX5_isSign_29 : decode cX5_isSign 29 = .ok (.iconst 0, 1) := by decide +kernel
theorem dX5_isSign_30 : decode cX5_isSign 30 = .ok (.ireturn, 1) := by decide +kernel
theorem dX5_passWord_0 : decode cX5_passWord 0 = .ok (.aload_n 0, 1) := by decide +kernel
theorem dX5_passWord_1 : decode cX5_passWord 1 = .ok (.iload_n 1, 1) := by decide +kernel
theorem dX5_passWord_2 : decode cX5_passWord 2 = .ok (.invokevirtual 77, 3) := by decide +kernel
theorem dX5_passWord_5 : decode cX5_passWord 5 = .ok (.ifCond .eq 10, 3) := by decide +kernel
theorem dX5_passWord_8 : decode cX5_passWord 8 = .ok (.aload_n 0, 1) := by decide +kernel
theorem dX5_passWord_9 : decode cX5_passWord 9 = .ok (.invokevirtual 49, 3) := by decide +kernel
theorem dX5_passWord_12 : decode cX5_passWord 12 = .ok (.goto 7, 3) := by decide +kernel
theorem dX5_passWord_15 : decode cX5_passWord 15 = .ok (.aload_n 0, 1) := by decide +kernel
theorem dX5_passWord_16 : decode cX5_passWord 16 = .ok (.invokevirtual 81, 3) := by decide +kernel
theorem dX5_passWord_19 : decode cX5_passWord 19 = .ok (.return_, 1) := by decide +kernel
theorem dX5_passSign_0 : decode cX5_passSign 0 = .ok (.aload_n 0, 1) := by decide +kernel
theorem dX5_passSign_1 : decode cX5_passSign 1 = .ok (.iload_n 1, 1) := by decide +kernel
theorem dX5_passSign_2 : decode cX5_passSign 2 = .ok (.invokevirtual 84, 3) := by decide +kernel
theorem dX5_passSign_5 : decode cX5_passSign 5 = .ok (.ifCond .eq 10, 3) := by decide +kernel
theorem dX5_passSign_8 : decode cX5_passSign 8 = .ok (.aload_n 0, 1) := by decide +kernel
theorem dX5_passSign_9 : decode cX5_passSign 9 = .ok (.invokevirtual 49, 3) := by decide +kernel
theorem dX5_passSign_12 : decode cX5_passSign 12 = .ok (.goto 7, 3) := by decide +kernel
theorem dX5_passSign_15 : decode cX5_passSign 15 = .ok (.aload_n 0, 1) := by decide +kernel
theorem dX5_passSign_16 : decode cX5_passSign 16 = .ok (.invokevirtual 81, 3) := by decide +kernel
theorem dX5_passSign_19 : decode cX5_passSign 19 = .ok (.return_, 1) := by decide +kernel
theorem dX5_passNumber_0 : decode cX5_passNumber 0 = .ok (.aload_n 0, 1) := by decide +kernel
theorem dX5_passNumber_1 : decode cX5_passNumber 1 = .ok (.getfield 43, 3) := by decide +kernel
theorem dX5_passNumber_4 : decode cX5_passNumber 4 = .ok (.ifCond .ne 11, 3) := by decide +kernel
theorem dX5_passNumber_7 : decode cX5_passNumber 7 = .ok (.aload_n 0, 1) := by decide +kernel
theorem dX5_passNumber_8 : decode cX5_passNumber 8 = .ok (.getfield 62, 3) := by decide +kernel
theorem dX5_passNumber_11 : decode cX5_passNumber 11 = .ok (.iconst 2, 1) := by decide +kernel
theorem dX5_passNumber_12 : decode cX5_passNumber 12 = .ok (.if_icmp .eq 9, 3) := by decide +kernel
theorem dX5_passNumber_15 : decode cX5_passNumber 15 = .ok (.aload_n 0, 1) := by decide +kernel
theorem dX5_passNumber_16 : decode cX5_passNumber 16 = .ok (.invokevirtual 81, 3) := by decide +kernel
theorem dX5_passNumber_19 : decode cX5_passNumber 19 = .ok (.iload_n 1, 1) := by decide +kernel
theorem dX5_passNumber_20 : decode cX5_passNumber 20 = .ok (.ireturn, 1) := by decide +kernel
theorem dX5_passNumber_21 : decode cX5_passNumber 21 = .ok (.aload_n 0, 1) := by decide +kernel
theorem dX5_passNumber_22 : decode cX5_passNumber 22 = .ok (.getfield 55, 3) := by decide +kernel
theorem dX5_passNumber_25 : decode cX5_passNumber 25 = .ok (.iload_n 1, 1) := by decide +kernel
theorem dX5_passNumber_26 : decode cX5_passNumber 26 = .ok (.i2l, 1) := by decide +kernel
theorem dX5_passNumber_27 : decode cX5_passNumber 27 = .ok (.lcmp, 1) := by decide +kernel
theorem dX5_passNumber_28 : decode cX5_passNumber 28 = .ok (.ifCond .lt 13, 3) := by decide +kernel
theorem dX5_passNumber_31 : decode cX5_passNumber 31 = .ok (.aload_n 0, 1) := by decide +kernel
theorem dX5_passNumber_32 : decode cX5_passNumber 32 = .ok (.getfield 55, 3) := by decide +kernel
theorem dX5_passNumber_35 : decode cX5_passNumber 35 = .ok (.iload_n 2, 1) := by decide +kernel
theorem dX5_passNumber_36 : decode cX5_passNumber 36 = .ok (.i2l, 1) := by decide +kernel
theorem dX5_passNumber_37 : decode cX5_passNumber 37 = .ok (.lcmp, 1) := by decide +kernel
theorem dX5_passNumber_38 : decode cX5_passNumber 38 = .ok (.ifCond .le 10, 3) := by decide +kernel
theorem dX5_passNumber_41 : decode cX5_passNumber 41 = .ok (.aload_n 0, 1) := by decide +kernel
theorem dX5_passNumber_42 : decode cX5_passNumber 42 = .ok (.iconst 4, 1) := by decide +kernel
theorem dX5_passNumber_43 : decode cX5_passNumber 43 = .ok (.invokevirtual 73, 3) := by decide +kernel
theorem dX5_passNumber_46 : decode cX5_passNumber 46 = .ok (.iload_n 1, 1) := by decide +kernel
theorem dX5_passNumber_47 : decode cX5_passNumber 47 = .ok (.ireturn, 1) := by decide +kernel
theorem dX5_passNumber_48 : decode cX5_passNumber 48 = .ok (.aload_n 0, 1) := by decide +kernel
theorem dX5_passNumber_49 : decode cX5_passNumber 49 = .ok (.getfield 55, 3) := by decide +kernel
theorem dX5_passNumber_52 : decode cX5_passNumber 52 = .ok (.l2i, 1) := by decide +kernel
theorem dX5_passNumber_53 : decode cX5_passNumber 53 = .ok (.istore_n 3, 1) := by decide +kernel
theorem dX5_passNumber_54 : decode cX5_passNumber 54 = .ok (.aload_n 0, 1) := by decide +kernel
theorem dX5_passNumber_55 : decode cX5_passNumber 55 = .ok (.invokevirtual 49, 3) := by decide +kernel
theorem dX5_passNumber_58 : decode cX5_passNumber 58 = .ok (.iload_n 3, 1) := by decide +kernel
theorem dX5_passNumber_59 : decode cX5_passNumber 59 = .ok (.ireturn, 1) := by decide +kernel
theorem dX5_passLetter_0 : decode cX5_passLetter 0 = .ok (.aload_n 0, 1) := by decide +kernel
theorem dX5_passLetter_1 : decode cX5_passLetter 1 = .ok (.getfield 43, 3) := by decide +kernel
theorem dX5_passLetter_4 : decode cX5_passLetter 4 = .ok (.ifCond .ne 24, 3) := by decide +kernel
theorem dX5_passLetter_7 : decode cX5_passLetter 7 = .ok (.aload_n 0, 1) := by decide +kernel
theorem dX5_passLetter_8 : decode cX5_passLetter 8 = .ok (.getfield 62, 3) := by decide +kernel
theorem dX5_passLetter_11 : decode cX5_passLetter 11 = .ok (.iconst 1, 1) := by decide +kernel
theorem dX5_passLetter_12 : decode cX5_passLetter 12 = .ok (.if_icmp .ne 16, 3) := by decide +kernel
theorem dX5_passLetter_15 : decode cX5_passLetter 15 = .ok (.aload_n 0, 1) := by decide +kernel
theorem dX5_passLetter_16 : decode cX5_passLetter 16 = .ok (.getfield 40, 3) := by decide +kernel
theorem dX5_passLetter_19 : decode cX5_passLetter 19 = .ok (.aload_n 0, 1) := by decide +kernel
theorem dX5_passLetter_20 : decode cX5_passLetter 20 = .ok (.getfield 52, 3) := by decide +kernel
theorem dX5_passLetter_23 : decode cX5_passLetter 23 = .ok (.isub, 1) := by decide +kernel
theorem dX5_passLetter_24 : decode cX5_passLetter 24 = .ok (.iconst 1, 1) := by decide +kernel
theorem dX5_passLetter_25 : decode cX5_passLetter 25 = .ok (.if_icmp .eq 9, 3) := by decide +kernel
theorem dX5_passLetter_28 : decode cX5_passLetter 28 = .ok (.aload_n 0, 1) := by decide +kernel
theorem dX5_passLetter_29 : decode cX5_passLetter 29 = .ok (.invokevirtual 81, 3) := by decide +kernel
theorem dX5_passLetter_32 : decode cX5_passLetter 32 = .ok (.iconst 0, 1) := by decide +kernel
theorem dX5_passLetter_33 : decode cX5_passLetter 33 = .ok (.ireturn, 1) := by decide +kernel
theorem dX5_passLetter_34 : decode cX5_passLetter 34 = .ok (.aload_n 0, 1) := by decide +kernel
theorem dX5_passLetter_35 : decode cX5_passLetter 35 = .ok (.getfield 55, 3) := by decide +kernel
theorem dX5_passLetter_38 : decode cX5_passLetter 38 = .ok (.l2i, 1) := by decide +kernel
theorem dX5_passLetter_39 : decode cX5_passLetter 39 = .ok (.istore_n 1, 1) := by decide +kernel
theorem dX5_passLetter_40 : decode cX5_passLetter 40 = .ok (.aload_n 0, 1) := by decide +kernel
theorem dX5_passLetter_41 : decode cX5_passLetter 41 = .ok (.invokevirtual 49, 3) := by decide +kernel
theorem dX5_passLetter_44 : decode cX5_passLetter 44 = .ok (.iload_n 1, 1) := by decide +kernel
theorem dX5_passLetter_45 : decode cX5_passLetter 45 = .ok (.ireturn, 1) := by decide +kernel
theorem dX5_passCompares_0 : decode cX5_passCompares 0 = .ok (.aload_n 0, 1) := by decide +kernel
theorem dX5_passCompares_1 : decode cX5_passCompares 1 = .ok (.bipush 60, 2) := by decide +kernel
theorem dX5_passCompares_3 : decode cX5_passCompares 3 = .ok (.invokevirtual 84, 3) := by decide +kernel
theorem dX5_passCompares_6 : decode cX5_passCompares 6 = .ok (.ifCond .ne 21, 3) := by decide +kernel
theorem dX5_passCompares_9 : decode cX5_passCompares 9 = .ok (.aload_n 0, 1) := by decide +kernel
theorem dX5_passCompares_10 : decode cX5_passCompares 10 = .ok (.bipush 62, 2) := by decide +kernel
theorem dX5_passCompares_12 : decode cX5_passCompares 12 = .ok (.invokevirtual 84, 3) := by decide +kernel
theorem dX5_passCompares_15 : decode cX5_passCompares 15 = .ok (.ifCond .ne 12, 3) := by decide +kernel
theorem dX5_passCompares_18 : decode cX5_passCompares 18 = .ok (.aload_n 0, 1) := by decide +kernel
theorem dX5_passCompares_19 : decode cX5_passCompares 19 = .ok (.bipush 61, 2) := by decide +kernel
theorem dX5_passCompares_21 : decode cX5_passCompares 21 = .ok (.invokevirtual 84, 3) := by decide +kernel
theorem dX5_passCompares_24 : decode cX5_passCompares 24 = .ok (.ifCond .eq 16, 3) := by decide +kernel
theorem dX5_passCompares_27 : decode cX5_passCompares 27 = .ok (.aload_n 0, 1) := by decide +kernel
theorem dX5_passCompares_28 : decode cX5_passCompares 28 = .ok (.getfield 55, 3) := by decide +kernel
theorem dX5_passCompares_31 : decode cX5_passCompares 31 = .ok (.l2i, 1) := by decide +kernel
theorem dX5_passCompares_32 : decode cX5_passCompares 32 = .ok (.i2c, 1) := by decide +kernel
theorem dX5_passCompares_33 : decode cX5_passCompares 33 = .ok (.istore_n 1, 1) := by decide +kernel
theorem dX5_passCompares_34 : decode cX5_passCompares 34 = .ok (.aload_n 0, 1) := by decide +kernel
theorem dX5_passCompares_35 : decode cX5_passCompares 35 = .ok (.invokevirtual 49, 3) := by decide +kernel
theorem dX5_passCompares_38 : decode cX5_passCompares 38 = .ok (.iload_n 1, 1) := by decide +kernel
theorem dX5_passCompares_39 : decode cX5_passCompares 39 = .ok (.ireturn, 1) := by decide +kernel
theorem dX5_passCompares_40 : decode cX5_passCompares 40 = .ok (.aload_n 0, 1) := by decide +kernel
theorem dX5_passCompares_41 : decode cX5_passCompares 41 = .ok (.invokevirtual 81, 3) := by decide +kernel
theorem dX5_passCompares_44 : decode cX5_passCompares 44 = .ok (.bipush 61, 2) := by decide +kernel
theorem dX5_passCompares_46 : decode cX5_passCompares 46 = .ok (.ireturn, 1) := by decide +kernel
theorem dX5_seeName_0 : decode cX5_seeName 0 = .ok (.aload_n 0, 1) := by decide +kernel
theorem dX5_seeName_1 : decode cX5_seeName 1 = .ok (.getfield 43, 3) := by decide +kernel
theorem dX5_seeName_4 : decode cX5_seeName 4 = .ok (.ifCond .ne 38, 3) := by decide +kernel
theorem dX5_seeName_7 : decode cX5_seeName 7 = .ok (.aload_n 0, 1) := by decide +kernel
theorem dX5_seeName_8 : decode cX5_seeName 8 = .ok (.getfield 62, 3) := by decide +kernel
theorem dX5_seeName_11 : decode cX5_seeName 11 = .ok (.iconst 1, 1) := by decide +kernel
theorem dX5_seeName_12 : decode cX5_seeName 12 = .ok (.if_icmp .ne 30, 3) := by decide +kernel
theorem dX5_seeName_15 : decode cX5_seeName 15 = .ok (.aload_n 0, 1) := by decide +kernel
theorem dX5_seeName_16 : decode cX5_seeName 16 = .ok (.getfield 59, 3) := by decide +kernel
theorem dX5_seeName_19 : decode cX5_seeName 19 = .ok (.iconst (-1), 1) := by decide +kernel
theorem dX5_seeName_20 : decode cX5_seeName 20 = .ok (.if_icmp .ne 22, 3) := by decide +kernel
theorem dX5_seeName_23 : decode cX5_seeName 23 = .ok (.aload_n 0, 1) := by decide +kernel
theorem dX5_seeName_24 : decode cX5_seeName 24 = .ok (.getfield 40, 3) := by decide +kernel
theorem dX5_seeName_27 : decode cX5_seeName 27 = .ok (.aload_n 0, 1) := by decide +kernel
theorem dX5_seeName_28 : decode cX5_seeName 28 = .ok (.getfield 52, 3) := by decide +kernel
theorem dX5_seeName_31 : decode cX5_seeName 31 = .ok (.isub, 1) := by decide +kernel
theorem dX5_seeName_32 : decode cX5_seeName 32 = .ok (.bipush 8, 2) := by decide +kernel
theorem dX5_seeName_34 : decode cX5_seeName 34 = .ok (.if_icmp .gt 8, 3) := by decide +kernel
theorem dX5_seeName_37 : decode cX5_seeName 37 = .ok (.aload_n 0, 1) := by decide +kernel
theorem dX5_seeName_38 : decode cX5_seeName 38 = .ok (.getfield 55, 3) := by decide +kernel
theorem dX5_seeName_41 : decode cX5_seeName 41 = .ok (.lreturn, 1) := by decide +kernel
theorem dX5_seeName_42 : decode cX5_seeName 42 = .ok (.aload_n 0, 1) := by decide +kernel
theorem dX5_seeName_43 : decode cX5_seeName 43 = .ok (.invokevirtual 81, 3) := by decide +kernel
theorem dX5_seeName_46 : decode cX5_seeName 46 = .ok (.lconst 0, 1) := by decide +kernel
theorem dX5_seeName_47 : decode cX5_seeName 47 = .ok (.lreturn, 1) := by decide +kernel
theorem dX5_passFound_0 : decode cX5_passFound 0 = .ok (.iload_n 1, 1) := by decide +kernel
theorem dX5_passFound_1 : decode cX5_passFound 1 = .ok (.iconst (-1), 1) := by decide +kernel
theorem dX5_passFound_2 : decode cX5_passFound 2 = .ok (.if_icmp .ne 8, 3) := by decide +kernel
theorem dX5_passFound_5 : decode cX5_passFound 5 = .ok (.aload_n 0, 1) := by decide +kernel
theorem dX5_passFound_6 : decode cX5_passFound 6 = .ok (.iconst 3, 1) := by decide +kernel
theorem dX5_passFound_7 : decode cX5_passFound 7 = .ok (.invokevirtual 73, 3) := by decide +kernel
theorem dX5_passFound_10 : decode cX5_passFound 10 = .ok (.aload_n 0, 1) := by decide +kernel
theorem dX5_passFound_11 : decode cX5_passFound 11 = .ok (.getfield 43, 3) := by decide +kernel
theorem dX5_passFound_14 : decode cX5_passFound 14 = .ok (.ifCond .eq 5, 3) := by decide +kernel
theorem dX5_passFound_17 : decode cX5_passFound 17 = .ok (.iconst 0, 1) := by decide +kernel
theorem dX5_passFound_18 : decode cX5_passFound 18 = .ok (.ireturn, 1) := by decide +kernel
theorem dX5_passFound_19 : decode cX5_passFound 19 = .ok (.aload_n 0, 1) := by decide +kernel
theorem dX5_passFound_20 : decode cX5_passFound 20 = .ok (.invokevirtual 49, 3) := by decide +kernel
theorem dX5_passFound_23 : decode cX5_passFound 23 = .ok (.iload_n 1, 1) := by decide +kernel
theorem dX5_passFound_24 : decode cX5_passFound 24 = .ok (.ireturn, 1) := by decide +kernel
