theorem dX6_init_0 : decode cX6_init 0 = .ok (.aload_n 0, 1) := by decide +kernel
theorem dX6_init_1 : decode cX6_init 1 = .ok (.invokespecial 3, 3) := by decide +kernel
theorem dX6_init_4 : decode cX6_init 4 = .ok (.aload_n 0, 1) := by decide +kernel
theorem dX6_init_5 : decode cX6_init 5 = .ok (.iconst 4, 1) := by decide +kernel
theorem dX6_init_6 : decode cX6_init 6 = .ok (.newarray .long, 2) := by decide +kernel
theorem dX6_init_8 : decode cX6_init 8 = .ok (.putfield 9, 3) := by decide +kernel
theorem dX6_init_11 : decode cX6_init 11 = .ok (.aload_n 0, 1) := by decide +kernel
theorem dX6_init_12 : decode cX6_init 12 = .ok (.bipush 12, 2) := by decide +kernel
theorem dX6_init_14 : decode cX6_init 14 = .ok (.anewarray 15, 3) := by decide +kernel
theorem dX6_init_17 : decode cX6_init 17 = .ok (.putfield 17, 3) := by decide +kernel
theorem dX6_init_20 : decode cX6_init 20 = .ok (.aload_n 0, 1) := by decide +kernel
theorem dX6_init_21 : decode cX6_init 21 = .ok (.iconst 4, 1) := by decide +kernel
theorem dX6_init_22 : decode cX6_init 22 = .ok (.anewarray 21, 3) := by decide +kernel
theorem dX6_init_25 : decode cX6_init 25 = .ok (.putfield 23, 3) := by decide +kernel
theorem dX6_init_28 : decode cX6_init 28 = .ok (.aload_n 0, 1) := by decide +kernel
theorem dX6_init_29 : decode cX6_init 29 = .ok (.new 27, 3) := by decide +kernel
theorem dX6_init_32 : decode cX6_init 32 = .ok (.dup, 1) := by decide +kernel
theorem dX6_init_33 : decode cX6_init 33 = .ok (.invokespecial 29, 3) := by decide +kernel
theorem dX6_init_36 : decode cX6_init 36 = .ok (.putfield 30, 3) := by decide +kernel
theorem dX6_init_39 : decode cX6_init 39 = .ok (.aload_n 0, 1) := by decide +kernel
theorem dX6_init_40 : decode cX6_init 40 = .ok (.new 34, 3) := by decide +kernel
theorem dX6_init_43 : decode cX6_init 43 = .ok (.dup, 1) := by decide +kernel
theorem dX6_init_44 : decode cX6_init 44 = .ok (.invokespecial 36, 3) := by decide +kernel
theorem dX6_init_47 : decode cX6_init 47 = .ok (.putfield 37, 3) := by decide +kernel
theorem dX6_init_50 : decode cX6_init 50 = .ok (.aload_n 0, 1) := by decide +kernel
theorem dX6_init_51 : decode cX6_init 51 = .ok (.iconst 2, 1) := by decide +kernel
theorem dX6_init_52 : decode cX6_init 52 = .ok (.putfield 41, 3) := by decide +kernel
theorem dX6_init_55 : decode cX6_init 55 = .ok (.iconst 0, 1) := by decide +kernel
theorem dX6_init_56 : decode cX6_init 56 = .ok (.istore_n 1, 1) := by decide +kernel
theorem dX6_init_57 : decode cX6_init 57 = .ok (.iload_n 1, 1) := by decide +kernel
theorem dX6_init_58 : decode cX6_init 58 = .ok (.bipush 12, 2) := by decide +kernel
theorem dX6_init_60 : decode cX6_init 60 = .ok (.if_icmp .ge 22, 3) := by decide +kernel
theorem dX6_init_63 : decode cX6_init 63 = .ok (.aload_n 0, 1) := by decide +kernel
theorem dX6_init_64 : decode cX6_init 64 = .ok (.getfield 17, 3) := by decide +kernel
theorem dX6_init_67 : decode cX6_init 67 = .ok (.iload_n 1, 1) := by decide +kernel
theorem dX6_init_68 : decode cX6_init 68 = .ok (.new 15, 3) := by decide +kernel
theorem dX6_init_71 : decode cX6_init 71 = .ok (.dup, 1) := by decide +kernel
theorem dX6_init_72 : decode cX6_init 72 = .ok (.invokespecial 45, 3) := by decide +kernel
theorem dX6_init_75 : decode cX6_init 75 = .ok (.aastore, 1) := by decide +kernel
theorem dX6_init_76 : decode cX6_init 76 = .ok (.iinc 1 1, 3) := by decide +kernel
theorem dX6_init_79 : decode cX6_init 79 = .ok (.goto (-22), 3) := by decide +kernel
theorem dX6_init_82 : decode cX6_init 82 = .ok (.iconst 0, 1) := by decide +kernel
theorem dX6_init_83 : decode cX6_init 83 = .ok (.istore_n 1, 1) := by decide +kernel
theorem dX6_init_84 : decode cX6_init 84 = .ok (.iload_n 1, 1) := by decide +kernel
theorem dX6_init_85 : decode cX6_init 85 = .ok (.iconst 4, 1) := by decide +kernel
theorem dX6_init_86 : decode cX6_init 86 = .ok (.if_icmp .ge 22, 3) := by decide +kernel
theorem dX6_init_89 : decode cX6_init 89 = .ok (.aload_n 0, 1) := by decide +kernel
theorem dX6_init_90 : decode cX6_init 90 = .ok (.getfield 23, 3) := by decide +kernel
theorem dX6_init_93 : decode cX6_init 93 = .ok (.iload_n 1, 1) := by decide +kernel
theorem dX6_init_94 : decode cX6_init 94 = .ok (.new 21, 3) := by decide +kernel
theorem dX6_init_97 : decode cX6_init 97 = .ok (.dup, 1) := by decide +kernel
theorem dX6_init_98 : decode cX6_init 98 = .ok (.invokespecial 46, 3) := by decide +kernel
theorem dX6_init_101 : decode cX6_init 101 = .ok (.aastore, 1) := by decide +kernel
theorem dX6_init_102 : decode cX6_init 102 = .ok (.iinc 1 1, 3) := by decide +kernel
theorem dX6_init_105 : decode cX6_init 105 = .ok (.goto (-21), 3) := by decide +kernel
theorem dX6_init_108 : decode cX6_init 108 = .ok (.return_, 1) := by decide +kernel
theorem dX6_copyFrom_0 : decode cX6_copyFrom 0 = .ok (.iconst 0, 1) := by decide +kernel
theorem dX6_copyFrom_1 : decode cX6_copyFrom 1 = .ok (.istore_n 2, 1) := by decide +kernel
theorem dX6_copyFrom_2 : decode cX6_copyFrom 2 = .ok (.iload_n 2, 1) := by decide +kernel
theorem dX6_copyFrom_3 : decode cX6_copyFrom 3 = .ok (.aload_n 1, 1) := by decide +kernel
theorem dX6_copyFrom_4 : decode cX6_copyFrom 4 = .ok (.getfield 47, 3) := by decide +kernel
theorem dX6_copyFrom_7 : decode cX6_copyFrom 7 = .ok (.if_icmp .ge 24, 3) := by decide +kernel
theorem dX6_copyFrom_10 : decode cX6_copyFrom 10 = .ok (.aload_n 0, 1) := by decide +kernel
theorem dX6_copyFrom_11 : decode cX6_copyFrom 11 = .ok (.getfield 17, 3) := by decide +kernel
theorem dX6_copyFrom_14 : decode cX6_copyFrom 14 = .ok (.iload_n 2, 1) := by decide +kernel
theorem dX6_copyFrom_15 : decode cX6_copyFrom 15 = .ok (.aaload, 1) := by decide +kernel
theorem dX6_copyFrom_16 : decode cX6_copyFrom 16 = .ok (.aload_n 1, 1) := by decide +kernel
theorem dX6_copyFrom_17 : decode cX6_copyFrom 17 = .ok (.getfield 17, 3) := by decide +kernel
theorem dX6_copyFrom_20 : decode cX6_copyFrom 20 = .ok (.iload_n 2, 1) := by decide +kernel
theorem dX6_copyFrom_21 : decode cX6_copyFrom 21 = .ok (.aaload, 1) := by decide +kernel
theorem dX6_copyFrom_22 : decode cX6_copyFrom 22 = .ok (.invokevirtual 50, 3) := by decide +kernel
theorem dX6_copyFrom_25 : decode cX6_copyFrom 25 = .ok (.iinc 2 1, 3) := by decide +kernel
theorem dX6_copyFrom_28 : decode cX6_copyFrom 28 = .ok (.goto (-26), 3) := by decide +kernel
theorem dX6_copyFrom_31 : decode cX6_copyFrom 31 = .ok (.iconst 0, 1) := by decide +kernel
theorem dX6_copyFrom_32 : decode cX6_copyFrom 32 = .ok (.istore_n 2, 1) := by decide +kernel
theorem dX6_copyFrom_33 : decode cX6_copyFrom 33 = .ok (.iload_n 2, 1) := by decide +kernel
theorem dX6_copyFrom_34 : decode cX6_copyFrom 34 = .ok (.aload_n 1, 1) := by decide +kernel
theorem dX6_copyFrom_35 : decode cX6_copyFrom 35 = .ok (.getfield 54, 3) := by decide +kernel
theorem dX6_copyFrom_38 : decode cX6_copyFrom 38 = .ok (.if_icmp .ge 24, 3) := by decide +kernel
theorem dX6_copyFrom_41 : decode cX6_copyFrom 41 = .ok (.aload_n 0, 1) := by decide +kernel
theorem dX6_copyFrom_42 : decode cX6_copyFrom 42 = .ok (.getfield 23, 3) := by decide +kernel
theorem dX6_copyFrom_45 : decode cX6_copyFrom 45 = .ok (.iload_n 2, 1) := by decide +kernel
theorem dX6_copyFrom_46 : decode cX6_copyFrom 46 = .ok (.aaload, 1) := by decide +kernel
theorem dX6_copyFrom_47 : decode cX6_copyFrom 47 = .ok (.aload_n 1, 1) := by decide +kernel
theorem dX6_copyFrom_48 : decode cX6_copyFrom 48 = .ok (.getfield 23, 3) := by decide +kernel
theorem dX6_copyFrom_51 : decode cX6_copyFrom 51 = .ok (.iload_n 2, 1) := by decide +kernel
theorem dX6_copyFrom_52 : decode cX6_copyFrom 52 = .ok (.aaload, 1) := by decide +kernel
theorem dX6_copyFrom_53 : decode cX6_copyFrom 53 = .ok (.invokevirtual 57, 3) := by decide +kernel
theorem dX6_copyFrom_56 : decode cX6_copyFrom 56 = .ok (.iinc 2 1, 3) := by decide +kernel
theorem dX6_copyFrom_59 : decode cX6_copyFrom 59 = .ok (.goto (-26), 3) := by decide +kernel
theorem dX6_copyFrom_62 : decode cX6_copyFrom 62 = .ok (.aload_n 0, 1) := by decide +kernel
theorem dX6_copyFrom_63 : decode cX6_copyFrom 63 = .ok (.getfield 37, 3) := by decide +kernel
theorem dX6_copyFrom_66 : decode cX6_copyFrom 66 = .ok (.aload_n 1, 1) := by decide +kernel
theorem dX6_copyFrom_67 : decode cX6_copyFrom 67 = .ok (.getfield 37, 3) := by decide +kernel
theorem dX6_copyFrom_70 : decode cX6_copyFrom 70 = .ok (.invokevirtual 60, 3) := by decide +kernel
theorem dX6_copyFrom_73 : decode cX6_copyFrom 73 = .ok (.aload_n 0, 1) := by decide +kernel
theorem dX6_copyFrom_74 : decode cX6_copyFrom 74 = .ok (.aload_n 1, 1) := by decide +kernel
theorem dX6_copyFrom_75 : decode cX6_copyFrom 75 = .ok (.getfield 63, 3) := by decide +kernel
theorem dX6_copyFrom_78 : decode cX6_copyFrom 78 = .ok (.putfield 63, 3) := by decide +kernel
theorem dX6_copyFrom_81 : decode cX6_copyFrom 81 = .ok (.aload_n 0, 1) := by decide +kernel
theorem dX6_copyFrom_82 : decode cX6_copyFrom 82 = .ok (.aload_n 1, 1) := by decide +kernel
theorem dX6_copyFrom_83 : decode cX6_copyFrom 83 = .ok (.getfield 47, 3) := by decide +kernel
theorem dX6_copyFrom_86 : decode cX6_copyFrom 86 = .ok (.putfield 47, 3) := by decide +kernel
theorem dX6_copyFrom_89 : decode cX6_copyFrom 89 = .ok (.aload_n 0, 1) := by decide +kernel
theorem dX6_copyFrom_90 : decode cX6_copyFrom 90 = .ok (.aload_n 1, 1) := by decide +kernel
theorem dX6_copyFrom_91 : decode cX6_copyFrom 91 = .ok (.getfield 54, 3) := by decide +kernel
theorem dX6_copyFrom_94 : decode cX6_copyFrom 94 = .ok (.putfield 54, 3) := by decide +kernel
theorem dX6_copyFrom_97 : decode cX6_copyFrom 97 = .ok (.aload_n 0, 1) := by decide +kernel
theorem dX6_copyFrom_98 : decode cX6_copyFrom 98 = .ok (.aload_n 1, 1) := by decide +kernel
theorem dX6_copyFrom_99 : decode cX6_copyFrom 99 = .ok (.getfield 41, 3) := by decide +kernel
theorem dX6_copyFrom_102 : decode cX6_copyFrom 102 = .ok (.putfield 41, 3) := by decide +kernel
theorem dX6_copyFrom_105 : decode cX6_copyFrom 105 = .ok (.return_, 1) := by decide +kernel
theorem dX6_readText_0 : decode cX6_readText 0 = .ok (.aload_n 0, 1) := by decide +kernel
theorem dX6_readText_1 : decode cX6_readText 1 = .ok (.iconst 0, 1) := by decide +kernel
theorem dX6_readText_2 : decode cX6_readText 2 = .ok (.putfield 63, 3) := by decide +kernel
theorem dX6_readText_5 : decode cX6_readText 5 = .ok (.aload_n 0, 1) := by decide +kernel
theorem dX6_readText_6 : decode cX6_readText 6 = .ok (.iconst 0, 1) := by decide +kernel
theorem dX6_readText_7 : decode cX6_readText 7 = .ok (.putfield 47, 3) := by decide +kernel
theorem dX6_readText_10 : decode cX6_readText 10 = .ok (.aload_n 0, 1) := by decide +kernel
theorem dX6_readText_11 : decode cX6_readText 11 = .ok (.iconst 0, 1) := by decide +kernel
theorem dX6_readText_12 : decode cX6_readText 12 = .ok (.putfield 54, 3) := by decide +kernel
theorem dX6_readText_15 : decode cX6_readText 15 = .ok (.aload_n 0, 1) := by decide +kernel
theorem dX6_readText_16 : decode cX6_readText 16 = .ok (.iconst 2, 1) := by decide +kernel
theorem dX6_readText_17 : decode cX6_readText 17 = .ok (.putfield 41, 3) := by decide +kernel
theorem dX6_readText_20 : decode cX6_readText 20 = .ok (.aload_n 0, 1) := by decide +kernel
theorem dX6_readText_21 : decode cX6_readText 21 = .ok (.iconst 0, 1) := by decide +kernel
theorem dX6_readText_22 : decode cX6_readText 22 = .ok (.putfield 66, 3) := by decide +kernel
theorem dX6_readText_25 : decode cX6_readText 25 = .ok (.aload_n 0, 1) := by decide +kernel
theorem dX6_readText_26 : decode cX6_readText 26 = .ok (.getfield 37, 3) := by decide +kernel
theorem dX6_readText_29 : decode cX6_readText 29 = .ok (.iconst 0, 1) := by decide +kernel
theorem dX6_readText_30 : decode cX6_readText 30 = .ok (.putfield 70, 3) := by decide +kernel
theorem dX6_readText_33 : decode cX6_readText 33 = .ok (.iconst 0, 1) := by decide +kernel
theorem dX6_readText_34 : decode cX6_readText 34 = .ok (.istore_n 2, 1) := by decide +kernel
theorem dX6_readText_35 : decode cX6_readText 35 = .ok (.iload_n 2, 1) := by decide +kernel
theorem dX6_readText_36 : decode cX6_readText 36 = .ok (.sipush 900, 3) := by decide +kernel
theorem dX6_readText_39 : decode cX6_readText 39 = .ok (.if_icmp .ge 92, 3) := by decide +kernel
theorem dX6_readText_42 : decode cX6_readText 42 = .ok (.aload_n 1, 1) := by decide +kernel
theorem dX6_readText_43 : decode cX6_readText 43 = .ok (.invokevirtual 73, 3) := by decide +kernel
theorem dX6_readText_46 : decode cX6_readText 46 = .ok (.ifCond .eq 85, 3) := by decide +kernel
theorem dX6_readText_49 : decode cX6_readText 49 = .ok (.aload_n 1, 1) := by decide +kernel
theorem dX6_readText_50 : decode cX6_readText 50 = .ok (.iconst 0, 1) := by decide +kernel
theorem dX6_readText_51 : decode cX6_readText 51 = .ok (.invokevirtual 79, 3) := by decide +kernel
theorem dX6_readText_54 : decode cX6_readText 54 = .ok (.ifCond .eq 11, 3) := by decide +kernel
theorem dX6_readText_57 : decode cX6_readText 57 = .ok (.aload_n 0, 1) := by decide +kernel
theorem dX6_readText_58 : decode cX6_readText 58 = .ok (.aload_n 1, 1) := by decide +kernel
theorem dX6_readText_59 : decode cX6_readText 59 = .ok (.invokevirtual 83, 3) := by decide +kernel
theorem dX6_readText_62 : decode cX6_readText 62 = .ok (.goto 57, 3) := by decide +kernel
theorem dX6_readText_65 : decode cX6_readText 65 = .ok (.aload_n 1, 1) := by decide +kernel
theorem dX6_readText_66 : decode cX6_readText 66 = .ok (.iconst 1, 1) := by decide +kernel
theorem dX6_readText_67 : decode cX6_readText 67 = .ok (.invokevirtual 79, 3) := by decide +kernel
theorem dX6_readText_70 : decode cX6_readText 70 = .ok (.ifCond .eq 11, 3) := by decide +kernel
theorem dX6_readText_73 : decode cX6_readText 73 = .ok (.aload_n 0, 1) := by decide +kernel
theorem dX6_readText_74 : decode cX6_readText 74 = .ok (.aload_n 1, 1) := by decide +kernel
theorem dX6_readText_75 : decode cX6_readText 75 = .ok (.invokevirtual 87, 3) := by decide +kernel
theorem dX6_readText_78 : decode cX6_readText 78 = .ok (.goto 41, 3) := by decide +kernel
theorem dX6_readText_81 : decode cX6_readText 81 = .ok (.aload_n 1, 1) := by decide +kernel
theorem dX6_readText_82 : decode cX6_readText 82 = .ok (.bipush 7, 2) := by decide +kernel
theorem dX6_readText_84 : decode cX6_readText 84 = .ok (.invokevirtual 79, 3) := by decide +kernel
theorem dX6_readText_87 : decode cX6_readText 87 = .ok (.ifCond .eq 11, 3) := by decide +kernel
theorem dX6_readText_90 : decode cX6_readText 90 = .ok (.aload_n 0, 1) := by decide +kernel
theorem dX6_readText_91 : decode cX6_readText 91 = .ok (.aload_n 1, 1) := by decide +kernel
theorem dX6_readText_92 : decode cX6_readText 92 = .ok (.invokevirtual 90, 3) := by decide +kernel
theorem dX6_readText_95 : decode cX6_readText 95 = .ok (.goto 24, 3) := by decide +kernel
theorem dX6_readText_98 : decode cX6_readText 98 = .ok (.aload_n 1, 1) := by decide +kernel
theorem dX6_readText_99 : decode cX6_readText 99 = .ok (.bipush 10, 2) := by decide +kernel
theorem dX6_readText_101 : decode cX6_readText 101 = .ok (.invokevirtual 79, 3) := by decide +kernel
theorem dX6_readText_104 : decode cX6_readText 104 = .ok (.ifCond .eq 11, 3) := by decide +kernel
theorem dX6_readText_107 : decode cX6_readText 107 = .ok (.aload_n 0, 1) := by decide +kernel
theorem dX6_readText_108 : decode cX6_readText 108 = .ok (.aload_n 1, 1) := by decide +kernel
theorem dX6_readText_109 : decode cX6_readText 109 = .ok (.invokevirtual 93, 3) := by decide +kernel
theorem dX6_readText_112 : decode cX6_readText 112 = .ok (.goto 7, 3) := by decide +kernel
theorem dX6_readText_115 : decode cX6_readText 115 = .ok (.aload_n 1, 1) := by decide +kernel
theorem dX6_readText_116 : decode cX6_readText 116 = .ok (.invokevirtual 96, 3) := by decide +kernel
theorem dX6_readText_119 : decode cX6_readText 119 = .ok (.aload_n 1, 1) := by decide +kernel
theorem dX6_readText_120 : decode cX6_readText 120 = .ok (.bipush 59, 2) := by decide +kernel
theorem dX6_readText_122 : decode cX6_readText 122 = .ok (.invokevirtual 99, 3) := by decide +kernel
theorem dX6_readText_125 : decode cX6_readText 125 = .ok (.iinc 2 1, 3) := by decide +kernel
theorem dX6_readText_128 : decode cX6_readText 128 = .ok (.goto (-93), 3) := by decide +kernel
theorem dX6_readText_131 : decode cX6_readText 131 = .ok (.return_, 1) := by decide +kernel
theorem dX6_readMaster_0 : decode cX6_readMaster 0 = .ok (.aload_n 0, 1) := by decide +kernel
theorem dX6_readMaster_1 : decode cX6_readMaster 1 = .ok (.getfield 63, 3) := by decide +kernel
theorem dX6_readMaster_4 : decode cX6_readMaster 4 = .ok (.iconst 4, 1) := by decide +kernel
theorem dX6_readMaster_5 : decode cX6_readMaster 5 = .ok (.if_icmp .lt 10, 3) := by decide +kernel
theorem dX6_readMaster_8 : decode cX6_readMaster 8 = .ok (.aload_n 1, 1) := by decide +kernel
theorem dX6_readMaster_9 : decode cX6_readMaster 9 = .ok (.bipush 6, 2) := by decide +kernel
theorem dX6_readMaster_11 : decode cX6_readMaster 11 = .ok (.invokevirtual 103, 3) := by decide +kernel
theorem dX6_readMaster_14 : decode cX6_readMaster 14 = .ok (.return_, 1) := by decide +kernel
theorem dX6_readMaster_15 : decode cX6_readMaster 15 = .ok (.aload_n 1, 1) := by decide +kernel
theorem dX6_readMaster_16 : decode cX6_readMaster 16 = .ok (.invokevirtual 107, 3) := by decide +kernel
theorem dX6_readMaster_19 : decode cX6_readMaster 19 = .ok (.aload_n 0, 1) := by decide +kernel
theorem dX6_readMaster_20 : decode cX6_readMaster 20 = .ok (.getfield 9, 3) := by decide +kernel
theorem dX6_readMaster_23 : decode cX6_readMaster 23 = .ok (.aload_n 0, 1) := by decide +kernel
theorem dX6_readMaster_24 : decode cX6_readMaster 24 = .ok (.getfield 63, 3) := by decide +kernel
theorem dX6_readMaster_27 : decode cX6_readMaster 27 = .ok (.aload_n 0, 1) := by decide +kernel
theorem dX6_readMaster_28 : decode cX6_readMaster 28 = .ok (.aload_n 1, 1) := by decide +kernel
theorem dX6_readMaster_29 : decode cX6_readMaster 29 = .ok (.invokevirtual 110, 3) := by decide +kernel
theorem dX6_readMaster_32 : decode cX6_readMaster 32 = .ok (.lastore, 1) := by decide +kernel
theorem dX6_readMaster_33 : decode cX6_readMaster 33 = .ok (.aload_n 0, 1) := by decide +kernel
theorem dX6_readMaster_34 : decode cX6_readMaster 34 = .ok (.dup, 1) := by decide +kernel
theorem dX6_readMaster_35 : decode cX6_readMaster 35 = .ok (.getfield 63, 3) := by decide +kernel
theorem dX6_readMaster_38 : decode cX6_readMaster 38 = .ok (.iconst 1, 1) := by decide +kernel
theorem dX6_readMaster_39 : decode cX6_readMaster 39 = .ok (.iadd, 1) := by decide +kernel
theorem dX6_readMaster_40 : decode cX6_readMaster 40 = .ok (.putfield 63, 3) := by decide +kernel
theorem dX6_readMaster_43 : decode cX6_readMaster 43 = .ok (.return_, 1) := by decide +kernel
theorem dX6_readLesson_0 : decode cX6_readLesson 0 = .ok (.aload_n 0, 1) := by decide +kernel
theorem dX6_readLesson_1 : decode cX6_readLesson 1 = .ok (.getfield 47, 3) := by decide +kernel
theorem dX6_readLesson_4 : decode cX6_readLesson 4 = .ok (.bipush 12, 2) := by decide +kernel
theorem dX6_readLesson_6 : decode cX6_readLesson 6 = .ok (.if_icmp .lt 10, 3) := by decide +kernel
theorem dX6_readLesson_9 : decode cX6_readLesson 9 = .ok (.aload_n 1, 1) := by decide +kernel
theorem dX6_readLesson_10 : decode cX6_readLesson 10 = .ok (.bipush 6, 2) := by decide +kernel
theorem dX6_readLesson_12 : decode cX6_readLesson 12 = .ok (.invokevirtual 103, 3) := by decide +kernel
theorem dX6_readLesson_15 : decode cX6_readLesson 15 = .ok (.return_, 1) := by decide +kernel
theorem dX6_readLesson_16 : decode cX6_readLesson 16 = .ok (.aload_n 1, 1) := by decide +kernel
theorem dX6_readLesson_17 : decode cX6_readLesson 17 = .ok (.invokevirtual 107, 3) := by decide +kernel
theorem dX6_readLesson_20 : decode cX6_readLesson 20 = .ok (.aload_n 0, 1) := by decide +kernel
theorem dX6_readLesson_21 : decode cX6_readLesson 21 = .ok (.getfield 17, 3) := by decide +kernel
theorem dX6_readLesson_24 : decode cX6_readLesson 24 = .ok (.aload_n 0, 1) := by decide +kernel
theorem dX6_readLesson_25 : decode cX6_readLesson 25 = .ok (.getfield 47, 3) := by decide +kernel
theorem dX6_readLesson_28 : decode cX6_readLesson 28 = .ok (.aaload, 1) := by decide +kernel
theorem dX6_readLesson_29 : decode cX6_readLesson 29 = .ok (.astore_n 2, 1) := by decide +kernel
theorem dX6_readLesson_30 : decode cX6_readLesson 30 = .ok (.aload_n 2, 1) := by decide +kernel
theorem dX6_readLesson_31 : decode cX6_readLesson 31 = .ok (.aload_n 0, 1) := by decide +kernel
theorem dX6_readLesson_32 : decode cX6_readLesson 32 = .ok (.aload_n 1, 1) := by decide +kernel
theorem dX6_readLesson_33 : decode cX6_readLesson 33 = .ok (.invokevirtual 110, 3) := by decide +kernel
theorem dX6_readLesson_36 : decode cX6_readLesson 36 = .ok (.putfield 114, 3) := by decide +kernel
theorem dX6_readLesson_39 : decode cX6_readLesson 39 = .ok (.aload_n 1, 1) := by decide +kernel
theorem dX6_readLesson_40 : decode cX6_readLesson 40 = .ok (.iconst 2, 1) := by decide +kernel
theorem dX6_readLesson_41 : decode cX6_readLesson 41 = .ok (.invokevirtual 118, 3) := by decide +kernel
theorem dX6_readLesson_44 : decode cX6_readLesson 44 = .ok (.aload_n 2, 1) := by decide +kernel
theorem dX6_readLesson_45 : decode cX6_readLesson 45 = .ok (.aload_n 1, 1) := by decide +kernel
theorem dX6_readLesson_46 : decode cX6_readLesson 46 = .ok (.invokevirtual 121, 3) := by decide +kernel
theorem dX6_readLesson_49 : decode cX6_readLesson 49 = .ok (.invokevirtual 125, 3) := by decide +kernel
theorem dX6_readLesson_52 : decode cX6_readLesson 52 = .ok (.aload_n 1, 1) := by decide +kernel
theorem dX6_readLesson_53 : decode cX6_readLesson 53 = .ok (.iconst 3, 1) := by decide +kernel
theorem dX6_readLesson_54 : decode cX6_readLesson 54 = .ok (.invokevirtual 118, 3) := by decide +kernel
theorem dX6_readLesson_57 : decode cX6_readLesson 57 = .ok (.aload_n 2, 1) := by decide +kernel
theorem dX6_readLesson_58 : decode cX6_readLesson 58 = .ok (.aload_n 1, 1) := by decide +kernel
theorem dX6_readLesson_59 : decode cX6_readLesson 59 = .ok (.iconst 1, 1) := by decide +kernel
theorem dX6_readLesson_60 : decode cX6_readLesson 60 = .ok (.bipush 30, 2) := by decide +kernel
theorem dX6_readLesson_62 : decode cX6_readLesson 62 = .ok (.invokevirtual 128, 3) := by decide +kernel
theorem dX6_readLesson_65 : decode cX6_readLesson 65 = .ok (.putfield 132, 3) := by decide +kernel
theorem dX6_readLesson_68 : decode cX6_readLesson 68 = .ok (.aload_n 2, 1) := by decide +kernel
theorem dX6_readLesson_69 : decode cX6_readLesson 69 = .ok (.aload_n 1, 1) := by decide +kernel
theorem dX6_readLesson_70 : decode cX6_readLesson 70 = .ok (.iconst 4, 1) := by decide +kernel
theorem dX6_readLesson_71 : decode cX6_readLesson 71 = .ok (.bipush 99, 2) := by decide +kernel
theorem dX6_readLesson_73 : decode cX6_readLesson 73 = .ok (.invokestatic 135, 3) := by decide +kernel
theorem dX6_readLesson_76 : decode cX6_readLesson 76 = .ok (.putfield 139, 3) := by decide +kernel
theorem dX6_readLesson_79 : decode cX6_readLesson 79 = .ok (.aload_n 2, 1) := by decide +kernel
theorem dX6_readLesson_80 : decode cX6_readLesson 80 = .ok (.iconst (-1), 1) := by decide +kernel
theorem dX6_readLesson_81 : decode cX6_readLesson 81 = .ok (.putfield 142, 3) := by decide +kernel
theorem dX6_readLesson_84 : decode cX6_readLesson 84 = .ok (.aload_n 1, 1) := by decide +kernel
theorem dX6_readLesson_85 : decode cX6_readLesson 85 = .ok (.iconst 5, 1) := by decide +kernel
theorem dX6_readLesson_86 : decode cX6_readLesson 86 = .ok (.invokevirtual 79, 3) := by decide +kernel
theorem dX6_readLesson_89 : decode cX6_readLesson 89 = .ok (.ifCond .eq 23, 3) := by decide +kernel
theorem dX6_readLesson_92 : decode cX6_readLesson 92 = .ok (.aload_n 1, 1) := by decide +kernel
theorem dX6_readLesson_93 : decode cX6_readLesson 93 = .ok (.invokevirtual 107, 3) := by decide +kernel
theorem dX6_readLesson_96 : decode cX6_readLesson 96 = .ok (.aload_n 2, 1) := by decide +kernel
theorem dX6_readLesson_97 : decode cX6_readLesson 97 = .ok (.aload_n 1, 1) := by decide +kernel
theorem dX6_readLesson_98 : decode cX6_readLesson 98 = .ok (.aload_n 0, 1) := by decide +kernel
theorem dX6_readLesson_99 : decode cX6_readLesson 99 = .ok (.aload_n 1, 1) := by decide +kernel
theorem dX6_readLesson_100 : decode cX6_readLesson 100 = .ok (.invokevirtual 145, 3) := by decide +kernel
theorem dX6_readLesson_103 : decode cX6_readLesson 103 = .ok (.invokevirtual 149, 3) := by decide +kernel
theorem dX6_readLesson_106 : decode cX6_readLesson 106 = .ok (.invokevirtual 153, 3) := by decide +kernel
theorem dX6_readLesson_109 : decode cX6_readLesson 109 = .ok (.putfield 142, 3) := by decide +kernel
theorem dX6_readLesson_112 : decode cX6_readLesson 112 = .ok (.aload_n 2, 1) := by decide +kernel
theorem dX6_readLesson_113 : decode cX6_readLesson 113 = .ok (.aload_n 1, 1) := by decide +kernel
theorem dX6_readLesson_114 : decode cX6_readLesson 114 = .ok (.bipush 6, 2) := by decide +kernel
theorem dX6_readLesson_116 : decode cX6_readLesson 116 = .ok (.invokevirtual 79, 3) := by decide +kernel
theorem dX6_readLesson_119 : decode cX6_readLesson 119 = .ok (.ifCond .eq 11, 3) := by decide +kernel
theorem dX6_readLesson_122 : decode cX6_readLesson 122 = .ok (.aload_n 0, 1) := by decide +kernel
theorem dX6_readLesson_123 : decode cX6_readLesson 123 = .ok (.aload_n 1, 1) := by decide +kernel
theorem dX6_readLesson_124 : decode cX6_readLesson 124 = .ok (.invokevirtual 157, 3) := by decide +kernel
theorem dX6_readLesson_127 : decode cX6_readLesson 127 = .ok (.goto 4, 3) := by decide +kernel
theorem dX6_readLesson_130 : decode cX6_readLesson 130 = .ok (.iconst 0, 1) := by decide +kernel
theorem dX6_readLesson_131 : decode cX6_readLesson 131 = .ok (.putfield 161, 3) := by decide +kernel
theorem dX6_readLesson_134 : decode cX6_readLesson 134 = .ok (.aload_n 0, 1) := by decide +kernel
theorem dX6_readLesson_135 : decode cX6_readLesson 135 = .ok (.dup, 1) := by decide +kernel
theorem dX6_readLesson_136 : decode cX6_readLesson 136 = .ok (.getfield 47, 3) := by decide +kernel
theorem dX6_readLesson_139 : decode cX6_readLesson 139 = .ok (.iconst 1, 1) := by decide +kernel
theorem dX6_readLesson_140 : decode cX6_readLesson 140 = .ok (.iadd, 1) := by decide +kernel
theorem dX6_readLesson_141 : decode cX6_readLesson 141 = .ok (.putfield 47, 3) := by decide +kernel
theorem dX6_readLesson_144 : decode cX6_readLesson 144 = .ok (.return_, 1) := by decide +kernel
theorem dX6_readNeeds_0 : decode cX6_readNeeds 0 = .ok (.aload_n 1, 1) := by decide +kernel
theorem dX6_readNeeds_1 : decode cX6_readNeeds 1 = .ok (.invokevirtual 107, 3) := by decide +kernel
theorem dX6_readNeeds_4 : decode cX6_readNeeds 4 = .ok (.iconst 0, 1) := by decide +kernel
theorem dX6_readNeeds_5 : decode cX6_readNeeds 5 = .ok (.istore_n 2, 1) := by decide +kernel
theorem dX6_readNeeds_6 : decode cX6_readNeeds 6 = .ok (.iconst 0, 1) := by decide +kernel
theorem dX6_readNeeds_7 : decode cX6_readNeeds 7 = .ok (.istore_n 3, 1) := by decide +kernel
theorem dX6_readNeeds_8 : decode cX6_readNeeds 8 = .ok (.iload_n 3, 1) := by decide +kernel
theorem dX6_readNeeds_9 : decode cX6_readNeeds 9 = .ok (.bipush 12, 2) := by decide +kernel
theorem dX6_readNeeds_11 : decode cX6_readNeeds 11 = .ok (.if_icmp .gt 69, 3) := by decide +kernel
theorem dX6_readNeeds_14 : decode cX6_readNeeds 14 = .ok (.aload_n 1, 1) := by decide +kernel
theorem dX6_readNeeds_15 : decode cX6_readNeeds 15 = .ok (.getfield 164, 3) := by decide +kernel
theorem dX6_readNeeds_18 : decode cX6_readNeeds 18 = .ok (.ifCond .ne 62, 3) := by decide +kernel
theorem dX6_readNeeds_21 : decode cX6_readNeeds 21 = .ok (.aload_n 0, 1) := by decide +kernel
theorem dX6_readNeeds_22 : decode cX6_readNeeds 22 = .ok (.aload_n 1, 1) := by decide +kernel
theorem dX6_readNeeds_23 : decode cX6_readNeeds 23 = .ok (.invokevirtual 145, 3) := by decide +kernel
theorem dX6_readNeeds_26 : decode cX6_readNeeds 26 = .ok (.invokevirtual 167, 3) := by decide +kernel
theorem dX6_readNeeds_29 : decode cX6_readNeeds 29 = .ok (.istore 4, 2) := by decide +kernel
theorem dX6_readNeeds_31 : decode cX6_readNeeds 31 = .ok (.iload 4, 2) := by decide +kernel
theorem dX6_readNeeds_33 : decode cX6_readNeeds 33 = .ok (.iconst (-1), 1) := by decide +kernel
theorem dX6_readNeeds_34 : decode cX6_readNeeds 34 = .ok (.if_icmp .eq 17, 3) := by decide +kernel
theorem dX6_readNeeds_37 : decode cX6_readNeeds 37 = .ok (.iload_n 2, 1) := by decide +kernel
theorem dX6_readNeeds_38 : decode cX6_readNeeds 38 = .ok (.iconst 1, 1) := by decide +kernel
theorem dX6_readNeeds_39 : decode cX6_readNeeds 39 = .ok (.iload 4, 2) := by decide +kernel
theorem dX6_readNeeds_41 : decode cX6_readNeeds 41 = .ok (.ishl, 1) := by decide +kernel
theorem dX6_readNeeds_42 : decode cX6_readNeeds 42 = .ok (.iand, 1) := by decide +kernel
theorem dX6_readNeeds_43 : decode cX6_readNeeds 43 = .ok (.ifCond .eq 8, 3) := by decide +kernel
theorem dX6_readNeeds_46 : decode cX6_readNeeds 46 = .ok (.aload_n 1, 1) := by decide +kernel
theorem dX6_readNeeds_47 : decode cX6_readNeeds 47 = .ok (.iconst 5, 1) := by decide +kernel
theorem dX6_readNeeds_48 : decode cX6_readNeeds 48 = .ok (.invokevirtual 103, 3) := by decide +kernel
theorem dX6_readNeeds_51 : decode cX6_readNeeds 51 = .ok (.iload_n 2, 1) := by decide +kernel
theorem dX6_readNeeds_52 : decode cX6_readNeeds 52 = .ok (.iconst 1, 1) := by decide +kernel
theorem dX6_readNeeds_53 : decode cX6_readNeeds 53 = .ok (.aload_n 1, 1) := by decide +kernel
theorem dX6_readNeeds_54 : decode cX6_readNeeds 54 = .ok (.iload 4, 2) := by decide +kernel
theorem dX6_readNeeds_56 : decode cX6_readNeeds 56 = .ok (.invokevirtual 153, 3) := by decide +kernel
theorem dX6_readNeeds_59 : decode cX6_readNeeds 59 = .ok (.ishl, 1) := by decide +kernel
theorem dX6_readNeeds_60 : decode cX6_readNeeds 60 = .ok (.ior, 1) := by decide +kernel
theorem dX6_readNeeds_61 : decode cX6_readNeeds 61 = .ok (.istore_n 2, 1) := by decide +kernel
theorem dX6_readNeeds_62 : decode cX6_readNeeds 62 = .ok (.aload_n 1, 1) := by decide +kernel
theorem dX6_readNeeds_63 : decode cX6_readNeeds 63 = .ok (.bipush 59, 2) := by decide +kernel
theorem dX6_readNeeds_65 : decode cX6_readNeeds 65 = .ok (.invokevirtual 170, 3) := by decide +kernel
theorem dX6_readNeeds_68 : decode cX6_readNeeds 68 = .ok (.ifCond .eq 6, 3) := by decide +kernel
theorem dX6_readNeeds_71 : decode cX6_readNeeds 71 = .ok (.goto 9, 3) := by decide +kernel
theorem dX6_readNeeds_74 : decode cX6_readNeeds 74 = .ok (.iinc 3 1, 3) := by decide +kernel
theorem dX6_readNeeds_77 : decode cX6_readNeeds 77 = .ok (.goto (-69), 3) := by decide +kernel
theorem dX6_readNeeds_80 : decode cX6_readNeeds 80 = .ok (.iload_n 2, 1) := by decide +kernel
theorem dX6_readNeeds_81 : decode cX6_readNeeds 81 = .ok (.ireturn, 1) := by decide +kernel
theorem dX6_readChild_0 : decode cX6_readChild 0 = .ok (.aload_n 0, 1) := by decide +kernel
theorem dX6_readChild_1 : decode cX6_readChild 1 = .ok (.getfield 54, 3) := by decide +kernel
theorem dX6_readChild_4 : decode cX6_readChild 4 = .ok (.iconst 4, 1) := by decide +kernel
theorem dX6_readChild_5 : decode cX6_readChild 5 = .ok (.if_icmp .lt 10, 3) := by decide +kernel
theorem dX6_readChild_8 : decode cX6_readChild 8 = .ok (.aload_n 1, 1) := by decide +kernel
theorem dX6_readChild_9 : decode cX6_readChild 9 = .ok (.bipush 6, 2) := by decide +kernel
theorem dX6_readChild_11 : decode cX6_readChild 11 = .ok (.invokevirtual 103, 3) := by decide +kernel
theorem dX6_readChild_14 : decode cX6_readChild 14 = .ok (.return_, 1) := by decide +kernel
theorem dX6_readChild_15 : decode cX6_readChild 15 = .ok (.aload_n 1, 1) := by decide +kernel
theorem dX6_readChild_16 : decode cX6_readChild 16 = .ok (.invokevirtual 107, 3) := by decide +kernel
theorem dX6_readChild_19 : decode cX6_readChild 19 = .ok (.aload_n 0, 1) := by decide +kernel
theorem dX6_readChild_20 : decode cX6_readChild 20 = .ok (.getfield 23, 3) := by decide +kernel
theorem dX6_readChild_23 : decode cX6_readChild 23 = .ok (.aload_n 0, 1) := by decide +kernel
theorem dX6_readChild_24 : decode cX6_readChild 24 = .ok (.getfield 54, 3) := by decide +kernel
theorem dX6_readChild_27 : decode cX6_readChild 27 = .ok (.aaload, 1) := by decide +kernel
theorem dX6_readChild_28 : decode cX6_readChild 28 = .ok (.astore_n 2, 1) := by decide +kernel
theorem dX6_readChild_29 : decode cX6_readChild 29 = .ok (.aload_n 2, 1) := by decide +kernel
theorem dX6_readChild_30 : decode cX6_readChild 30 = .ok (.aload_n 0, 1) := by decide +kernel
theorem dX6_readChild_31 : decode cX6_readChild 31 = .ok (.aload_n 1, 1) := by decide +kernel
theorem dX6_readChild_32 : decode cX6_readChild 32 = .ok (.invokevirtual 110, 3) := by decide +kernel
theorem dX6_readChild_35 : decode cX6_readChild 35 = .ok (.invokevirtual 174, 3) := by decide +kernel
theorem dX6_readChild_38 : decode cX6_readChild 38 = .ok (.aload_n 2, 1) := by decide +kernel
theorem dX6_readChild_39 : decode cX6_readChild 39 = .ok (.aload_n 1, 1) := by decide +kernel
theorem dX6_readChild_40 : decode cX6_readChild 40 = .ok (.bipush 8, 2) := by decide +kernel
theorem dX6_readChild_42 : decode cX6_readChild 42 = .ok (.bipush 9, 2) := by decide +kernel
theorem dX6_readChild_44 : decode cX6_readChild 44 = .ok (.invokestatic 135, 3) := by decide +kernel
theorem dX6_readChild_47 : decode cX6_readChild 47 = .ok (.putfield 178, 3) := by decide +kernel
theorem dX6_readChild_50 : decode cX6_readChild 50 = .ok (.aload_n 2, 1) := by decide +kernel
theorem dX6_readChild_51 : decode cX6_readChild 51 = .ok (.aload_n 1, 1) := by decide +kernel
theorem dX6_readChild_52 : decode cX6_readChild 52 = .ok (.bipush 9, 2) := by decide +kernel
theorem dX6_readChild_54 : decode cX6_readChild 54 = .ok (.sipush 999, 3) := by decide +kernel
theorem dX6_readChild_57 : decode cX6_readChild 57 = .ok (.invokestatic 135, 3) := by decide +kernel
theorem dX6_readChild_60 : decode cX6_readChild 60 = .ok (.putfield 181, 3) := by decide +kernel
theorem dX6_readChild_63 : decode cX6_readChild 63 = .ok (.aload_n 0, 1) := by decide +kernel
theorem dX6_readChild_64 : decode cX6_readChild 64 = .ok (.dup, 1) := by decide +kernel
theorem dX6_readChild_65 : decode cX6_readChild 65 = .ok (.getfield 54, 3) := by decide +kernel
theorem dX6_readChild_68 : decode cX6_readChild 68 = .ok (.iconst 1, 1) := by decide +kernel
theorem dX6_readChild_69 : decode cX6_readChild 69 = .ok (.iadd, 1) := by decide +kernel
theorem dX6_readChild_70 : decode cX6_readChild 70 = .ok (.putfield 54, 3) := by decide +kernel
theorem dX6_readChild_73 : decode cX6_readChild 73 = .ok (.return_, 1) := by decide +kernel
theorem dX6_readSounds_0 : decode cX6_readSounds 0 = .ok (.aload_n 0, 1) := by decide +kernel
theorem dX6_readSounds_1 : decode cX6_readSounds 1 = .ok (.getfield 66, 3) := by decide +kernel
theorem dX6_readSounds_4 : decode cX6_readSounds 4 = .ok (.ifCond .eq 9, 3) := by decide +kernel
theorem dX6_readSounds_7 : decode cX6_readSounds 7 = .ok (.aload_n 1, 1) := by decide +kernel
theorem dX6_readSounds_8 : decode cX6_readSounds 8 = .ok (.iconst 5, 1) := by decide +kernel
theorem dX6_readSounds_9 : decode cX6_readSounds 9 = .ok (.invokevirtual 103, 3) := by decide +kernel
theorem dX6_readSounds_12 : decode cX6_readSounds 12 = .ok (.return_, 1) := by decide +kernel
theorem dX6_readSounds_13 : decode cX6_readSounds 13 = .ok (.aload_n 1, 1) := by decide +kernel
theorem dX6_readSounds_14 : decode cX6_readSounds 14 = .ok (.invokevirtual 107, 3) := by decide +kernel
theorem dX6_readSounds_17 : decode cX6_readSounds 17 = .ok (.aload_n 0, 1) := by decide +kernel
theorem dX6_readSounds_18 : decode cX6_readSounds 18 = .ok (.aload_n 1, 1) := by decide +kernel
theorem dX6_readSounds_19 : decode cX6_readSounds 19 = .ok (.iconst 1, 1) := by decide +kernel
theorem dX6_readSounds_20 : decode cX6_readSounds 20 = .ok (.bipush 9, 2) := by decide +kernel
theorem dX6_readSounds_22 : decode cX6_readSounds 22 = .ok (.invokevirtual 128, 3) := by decide +kernel
theorem dX6_readSounds_25 : decode cX6_readSounds 25 = .ok (.putfield 41, 3) := by decide +kernel
theorem dX6_readSounds_28 : decode cX6_readSounds 28 = .ok (.aload_n 0, 1) := by decide +kernel
theorem dX6_readSounds_29 : decode cX6_readSounds 29 = .ok (.iconst 1, 1) := by decide +kernel
theorem dX6_readSounds_30 : decode cX6_readSounds 30 = .ok (.putfield 66, 3) := by decide +kernel
theorem dX6_readSounds_33 : decode cX6_readSounds 33 = .ok (.return_, 1) := by decide +kernel
theorem dX6_readPerhaps_0 : decode cX6_readPerhaps 0 = .ok (.aload_n 0, 1) := by decide +kernel
theorem dX6_readPerhaps_1 : decode cX6_readPerhaps 1 = .ok (.iload_n 1, 1) := by decide +kernel
theorem dX6_readPerhaps_2 : decode cX6_readPerhaps 2 = .ok (.invokevirtual 79, 3) := by decide +kernel
theorem dX6_readPerhaps_5 : decode cX6_readPerhaps 5 = .ok (.ifCond .ne 5, 3) := by decide +kernel
theorem dX6_readPerhaps_8 : decode cX6_readPerhaps 8 = .ok (.iconst 0, 1) := by decide +kernel
theorem dX6_readPerhaps_9 : decode cX6_readPerhaps 9 = .ok (.ireturn, 1) := by decide +kernel
theorem dX6_readPerhaps_10 : decode cX6_readPerhaps 10 = .ok (.aload_n 0, 1) := by decide +kernel
theorem dX6_readPerhaps_11 : decode cX6_readPerhaps 11 = .ok (.invokevirtual 107, 3) := by decide +kernel
theorem dX6_readPerhaps_14 : decode cX6_readPerhaps 14 = .ok (.aload_n 0, 1) := by decide +kernel
theorem dX6_readPerhaps_15 : decode cX6_readPerhaps 15 = .ok (.iconst 0, 1) := by decide +kernel
theorem dX6_readPerhaps_16 : decode cX6_readPerhaps 16 = .ok (.iload_n 2, 1) := by decide +kernel
theorem dX6_readPerhaps_17 : decode cX6_readPerhaps 17 = .ok (.invokevirtual 128, 3) := by decide +kernel
theorem dX6_readPerhaps_20 : decode cX6_readPerhaps 20 = .ok (.ireturn, 1) := by decide +kernel
theorem dX6_readNewName_0 : decode cX6_readNewName 0 = .ok (.aload_n 1, 1) := by decide +kernel
theorem dX6_readNewName_1 : decode cX6_readNewName 1 = .ok (.invokevirtual 145, 3) := by decide +kernel
theorem dX6_readNewName_4 : decode cX6_readNewName 4 = .ok (.lstore_n 2, 1) := by decide +kernel
theorem dX6_readNewName_5 : decode cX6_readNewName 5 = .ok (.aload_n 1, 1) := by decide +kernel
theorem dX6_readNewName_6 : decode cX6_readNewName 6 = .ok (.getfield 164, 3) := by decide +kernel
theorem dX6_readNewName_9 : decode cX6_readNewName 9 = .ok (.ifCond .eq 5, 3) := by decide +kernel
theorem dX6_readNewName_12 : decode cX6_readNewName 12 = .ok (.lload_n 2, 1) := by decide +kernel
theorem dX6_readNewName_13 : decode cX6_readNewName 13 = .ok (.lreturn, 1) := by decide +kernel
theorem dX6_readNewName_14 : decode cX6_readNewName 14 = .ok (.aload_n 0, 1) := by decide +kernel
theorem dX6_readNewName_15 : decode cX6_readNewName 15 = .ok (.lload_n 2, 1) := by decide +kernel
theorem dX6_readNewName_16 : decode cX6_readNewName 16 = .ok (.invokevirtual 149, 3) := by decide +kernel
theorem dX6_readNewName_19 : decode cX6_readNewName 19 = .ok (.iconst (-1), 1) := by decide +kernel
theorem dX6_readNewName_20 : decode cX6_readNewName 20 = .ok (.if_icmp .ne 21, 3) := by decide +kernel
theorem dX6_readNewName_23 : decode cX6_readNewName 23 = .ok (.aload_n 0, 1) := by decide +kernel
theorem dX6_readNewName_24 : decode cX6_readNewName 24 = .ok (.lload_n 2, 1) := by decide +kernel
theorem dX6_readNewName_25 : decode cX6_readNewName 25 = .ok (.invokevirtual 167, 3) := by decide +kernel
theorem dX6_readNewName_28 : decode cX6_readNewName 28 = .ok (.iconst (-1), 1) := by decide +kernel
theorem dX6_readNewName_29 : decode cX6_readNewName 29 = .ok (.if_icmp .ne 12, 3) := by decide +kernel
theorem dX6_readNewName_32 : decode cX6_readNewName 32 = .ok (.aload_n 0, 1) := by decide +kernel
theorem dX6_readNewName_33 : decode cX6_readNewName 33 = .ok (.lload_n 2, 1) := by decide +kernel
theorem dX6_readNewName_34 : decode cX6_readNewName 34 = .ok (.invokevirtual 184, 3) := by decide +kernel
theorem dX6_readNewName_37 : decode cX6_readNewName 37 = .ok (.iconst (-1), 1) := by decide +kernel
theorem dX6_readNewName_38 : decode cX6_readNewName 38 = .ok (.if_icmp .eq 10, 3) := by decide +kernel
theorem dX6_readNewName_41 : decode cX6_readNewName 41 = .ok (.aload_n 1, 1) := by decide +kernel
theorem dX6_readNewName_42 : decode cX6_readNewName 42 = .ok (.iconst 3, 1) := by decide +kernel
theorem dX6_readNewName_43 : decode cX6_readNewName 43 = .ok (.invokevirtual 103, 3) := by decide +kernel
theorem dX6_readNewName_46 : decode cX6_readNewName 46 = .ok (.lload_n 2, 1) := by decide +kernel
theorem dX6_readNewName_47 : decode cX6_readNewName 47 = .ok (.lreturn, 1) := by decide +kernel
theorem dX6_readNewName_48 : decode cX6_readNewName 48 = .ok (.aload_n 1, 1) := by decide +kernel
theorem dX6_readNewName_49 : decode cX6_readNewName 49 = .ok (.invokevirtual 107, 3) := by decide +kernel
theorem dX6_readNewName_52 : decode cX6_readNewName 52 = .ok (.lload_n 2, 1) := by decide +kernel
theorem dX6_readNewName_53 : decode cX6_readNewName 53 = .ok (.lreturn, 1) := by decide +kernel
theorem dX6_findMaster_0 : decode cX6_findMaster 0 = .ok (.iconst 0, 1) := by decide +kernel
theorem dX6_findMaster_1 : decode cX6_findMaster 1 = .ok (.istore_n 3, 1) := by decide +kernel
theorem dX6_findMaster_2 : decode cX6_findMaster 2 = .ok (.iload_n 3, 1) := by decide +kernel
theorem dX6_findMaster_3 : decode cX6_findMaster 3 = .ok (.aload_n 0, 1) := by decide +kernel
theorem dX6_findMaster_4 : decode cX6_findMaster 4 = .ok (.getfield 63, 3) := by decide +kernel
theorem dX6_findMaster_7 : decode cX6_findMaster 7 = .ok (.if_icmp .ge 22, 3) := by decide +kernel
theorem dX6_findMaster_10 : decode cX6_findMaster 10 = .ok (.aload_n 0, 1) := by decide +kernel
theorem dX6_findMaster_11 : decode cX6_findMaster 11 = .ok (.getfield 9, 3) := by decide +kernel
theorem dX6_findMaster_14 : decode cX6_findMaster 14 = .ok (.iload_n 3, 1) := by decide +kernel
theorem dX6_findMaster_15 : decode cX6_findMaster 15 = .ok (.laload, 1) := by decide +kernel
theorem dX6_findMaster_16 : decode cX6_findMaster 16 = .ok (.lload_n 1, 1) := by decide +kernel
theorem dX6_findMaster_17 : decode cX6_findMaster 17 = .ok (.lcmp, 1) := by decide +kernel
theorem dX6_findMaster_18 : decode cX6_findMaster 18 = .ok (.ifCond .ne 5, 3) := by decide +kernel
theorem dX6_findMaster_21 : decode cX6_findMaster 21 = .ok (.iload_n 3, 1) := by decide +kernel
theorem dX6_findMaster_22 : decode cX6_findMaster 22 = .ok (.ireturn, 1) := by decide +kernel
theorem dX6_findMaster_23 : decode cX6_findMaster 23 = .ok (.iinc 3 1, 3) := by decide +kernel
theorem dX6_findMaster_26 : decode cX6_findMaster 26 = .ok (.goto (-24), 3) := by decide +kernel
theorem dX6_findMaster_29 : decode cX6_findMaster 29 = .ok (.iconst (-1), 1) := by decide +kernel
theorem dX6_findMaster_30 : decode cX6_findMaster 30 = .ok (.ireturn, 1) := by decide +kernel
theorem dX6_findLesson_0 : decode cX6_findLesson 0 = .ok (.iconst 0, 1) := by decide +kernel
theorem dX6_findLesson_1 : decode cX6_findLesson 1 = .ok (.istore_n 3, 1) := by decide +kernel
theorem dX6_findLesson_2 : decode cX6_findLesson 2 = .ok (.iload_n 3, 1) := by decide +kernel
theorem dX6_findLesson_3 : decode cX6_findLesson 3 = .ok (.aload_n 0, 1) := by decide +kernel
theorem dX6_findLesson_4 : decode cX6_findLesson 4 = .ok (.getfield 47, 3) := by decide +kernel
theorem dX6_findLesson_7 : decode cX6_findLesson 7 = .ok (.if_icmp .ge 25, 3) := by decide +kernel
theorem dX6_findLesson_10 : decode cX6_findLesson 10 = .ok (.aload_n 0, 1) := by decide +kernel
theorem dX6_findLesson_11 : decode cX6_findLesson 11 = .ok (.getfield 17, 3) := by decide +kernel
theorem dX6_findLesson_14 : decode cX6_findLesson 14 = .ok (.iload_n 3, 1) := by decide +kernel
theorem dX6_findLesson_15 : decode cX6_findLesson 15 = .ok (.aaload, 1) := by decide +kernel
theorem dX6_findLesson_16 : decode cX6_findLesson 16 = .ok (.getfield 114, 3) := by decide +kernel
theorem dX6_findLesson_19 : decode cX6_findLesson 19 = .ok (.lload_n 1, 1) := by decide +kernel
theorem dX6_findLesson_20 : decode cX6_findLesson 20 = .ok (.lcmp, 1) := by decide +kernel
theorem dX6_findLesson_21 : decode cX6_findLesson 21 = .ok (.ifCond .ne 5, 3) := by decide +kernel
theorem dX6_findLesson_24 : decode cX6_findLesson 24 = .ok (.iload_n 3, 1) := by decide +kernel
theorem dX6_findLesson_25 : decode cX6_findLesson 25 = .ok (.ireturn, 1) := by decide +kernel
theorem dX6_findLesson_26 : decode cX6_findLesson 26 = .ok (.iinc 3 1, 3) := by decide +kernel
theorem dX6_findLesson_29 : decode cX6_findLesson 29 = .ok (.goto (-27), 3) := by decide +kernel
theorem dX6_findLesson_32 : decode cX6_findLesson 32 = .ok (.iconst (-1), 1) := by decide +kernel
theorem dX6_findLesson_33 : decode cX6_findLesson 33 = .ok (.ireturn, 1) := by decide +kernel
theorem dX6_findChild_0 : decode cX6_findChild 0 = .ok (.iconst 0, 1) := by decide +kernel
theorem dX6_findChild_1 : decode cX6_findChild 1 = .ok (.istore_n 3, 1) := by decide +kernel
theorem dX6_findChild_2 : decode cX6_findChild 2 = .ok (.iload_n 3, 1) := by decide +kernel
theorem dX6_findChild_3 : decode cX6_findChild 3 = .ok (.aload_n 0, 1) := by decide +kernel
theorem dX6_findChild_4 : decode cX6_findChild 4 = .ok (.getfield 54, 3) := by decide +kernel
theorem dX6_findChild_7 : decode cX6_findChild 7 = .ok (.if_icmp .ge 25, 3) := by decide +kernel
theorem dX6_findChild_10 : decode cX6_findChild 10 = .ok (.aload_n 0, 1) := by decide +kernel
theorem dX6_findChild_11 : decode cX6_findChild 11 = .ok (.getfield 23, 3) := by decide +kernel
theorem dX6_findChild_14 : decode cX6_findChild 14 = .ok (.iload_n 3, 1) := by decide +kernel
theorem dX6_findChild_15 : decode cX6_findChild 15 = .ok (.aaload, 1) := by decide +kernel
theorem dX6_findChild_16 : decode cX6_findChild 16 = .ok (.getfield 187, 3) := by decide +kernel
theorem dX6_findChild_19 : decode cX6_findChild 19 = .ok (.lload_n 1, 1) := by decide +kernel
theorem dX6_findChild_20 : decode cX6_findChild 20 = .ok (.lcmp, 1) := by decide +kernel
theorem dX6_findChild_21 : decode cX6_findChild 21 = .ok (.ifCond .ne 5, 3) := by decide +kernel
theorem dX6_findChild_24 : decode cX6_findChild 24 = .ok (.iload_n 3, 1) := by decide +kernel
theorem dX6_findChild_25 : decode cX6_findChild 25 = .ok (.ireturn, 1) := by decide +kernel
theorem dX6_findChild_26 : decode cX6_findChild 26 = .ok (.iinc 3 1, 3) := by decide +kernel
theorem dX6_findChild_29 : decode cX6_findChild 29 = .ok (.goto (-27), 3) := by decide +kernel
theorem dX6_findChild_32 : decode cX6_findChild 32 = .ok (.iconst (-1), 1) := by decide +kernel
theorem dX6_findChild_33 : decode cX6_findChild 33 = .ok (.ireturn, 1) := by decide +kernel
theorem dX6_hasMaster_0 : decode cX6_hasMaster 0 = .ok (.iload_n 1, 1) := by decide +kernel
theorem dX6_hasMaster_1 : decode cX6_hasMaster 1 = .ok (.ifCond .lt 15, 3) := by decide +kernel
theorem dX6_hasMaster_4 : decode cX6_hasMaster 4 = .ok (.iload_n 1, 1) := by decide +kernel
theorem dX6_hasMaster_5 : decode cX6_hasMaster 5 = .ok (.aload_n 0, 1) := by decide +kernel
theorem dX6_hasMaster_6 : decode cX6_hasMaster 6 = .ok (.getfield 63, 3) := by decide +kernel
theorem dX6_hasMaster_9 : decode cX6_hasMaster 9 = .ok (.if_icmp .ge 7, 3) := by decide +kernel
theorem dX6_hasMaster_12 : decode cX6_hasMaster 12 = .ok (.iconst 1, 1) := by decide +kernel
theorem dX6_hasMaster_13 : decode cX6_hasMaster 13 = .ok (.goto 4, 3) := by decide +kernel
theorem dX6_hasMaster_16 : decode cX6_hasMaster 16 = .ok (.iconst 0, 1) := by decide +kernel
theorem dX6_hasMaster_17 : decode cX6_hasMaster 17 = .ok (.ireturn, 1) := by decide +kernel
theorem dX6_hasLesson_0 : decode cX6_hasLesson 0 = .ok (.lload_n 1, 1) := by decide +kernel
theorem dX6_hasLesson_1 : decode cX6_hasLesson 1 = .ok (.lconst 0, 1) := by decide +kernel
theorem dX6_hasLesson_2 : decode cX6_hasLesson 2 = .ok (.lcmp, 1) := by decide +kernel
theorem dX6_hasLesson_3 : decode cX6_hasLesson 3 = .ok (.ifCond .lt 17, 3) := by decide +kernel
theorem dX6_hasLesson_6 : decode cX6_hasLesson 6 = .ok (.lload_n 1, 1) := by decide +kernel
theorem dX6_hasLesson_7 : decode cX6_hasLesson 7 = .ok (.aload_n 0, 1) := by decide +kernel
theorem dX6_hasLesson_8 : decode cX6_hasLesson 8 = .ok (.getfield 47, 3) := by decide +kernel
theorem dX6_hasLesson_11 : decode cX6_hasLesson 11 = .ok (.i2l, 1) := by decide +kernel
theorem dX6_hasLesson_12 : decode cX6_hasLesson 12 = .ok (.lcmp, 1) := by decide +kernel
theorem dX6_hasLesson_13 : decode cX6_hasLesson 13 = .ok (.ifCond .ge 7, 3) := by decide +kernel
theorem dX6_hasLesson_16 : decode cX6_hasLesson 16 = .ok (.iconst 1, 1) := by decide +kernel
theorem dX6_hasLesson_17 : decode cX6_hasLesson 17 = .ok (.goto 4, 3) := by decide +kernel
theorem dX6_hasLesson_20 : decode cX6_hasLesson 20 = .ok (.iconst 0, 1) := by decide +kernel
theorem dX6_hasLesson_21 : decode cX6_hasLesson 21 = .ok (.ireturn, 1) := by decide +kernel
theorem dX6_hasChild_0 : decode cX6_hasChild 0 = .ok (.iload_n 1, 1) := by decide +kernel
theorem dX6_hasChild_1 : decode cX6_hasChild 1 = .ok (.ifCond .lt 15, 3) := by decide +kernel
theorem dX6_hasChild_4 : decode cX6_hasChild 4 = .ok (.iload_n 1, 1) := by decide +kernel
theorem dX6_hasChild_5 : decode cX6_hasChild 5 = .ok (.aload_n 0, 1) := by decide +kernel
theorem dX6_hasChild_6 : decode cX6_hasChild 6 = .ok (.getfield 54, 3) := by decide +kernel
theorem dX6_hasChild_9 : decode cX6_hasChild 9 = .ok (.if_icmp .ge 7, 3) := by decide +kernel
theorem dX6_hasChild_12 : decode cX6_hasChild 12 = .ok (.iconst 1, 1) := by decide +kernel
theorem dX6_hasChild_13 : decode cX6_hasChild 13 = .ok (.goto 4, 3) := by decide +kernel
theorem dX6_hasChild_16 : decode cX6_hasChild 16 = .ok (.iconst 0, 1) := by decide +kernel
theorem dX6_hasChild_17 : decode cX6_hasChild 17 = .ok (.ireturn, 1) := by decide +kernel
theorem dX6_hasAllLessons_0 : decode cX6_hasAllLessons 0 = .ok (.iconst 0, 1) := by decide +kernel
theorem dX6_hasAllLessons_1 : decode cX6_hasAllLessons 1 = .ok (.istore_n 3, 1) := by decide +kernel
theorem dX6_hasAllLessons_2 : decode cX6_hasAllLessons 2 = .ok (.iload_n 3, 1) := by decide +kernel
theorem dX6_hasAllLessons_3 : decode cX6_hasAllLessons 3 = .ok (.iload_n 2, 1) := by decide +kernel
theorem dX6_hasAllLessons_4 : decode cX6_hasAllLessons 4 = .ok (.if_icmp .ge 24, 3) := by decide +kernel
theorem dX6_hasAllLessons_7 : decode cX6_hasAllLessons 7 = .ok (.aload_n 0, 1) := by decide +kernel
theorem dX6_hasAllLessons_8 : decode cX6_hasAllLessons 8 = .ok (.aload_n 1, 1) := by decide +kernel
theorem dX6_hasAllLessons_9 : decode cX6_hasAllLessons 9 = .ok (.getfield 188, 3) := by decide +kernel
theorem dX6_hasAllLessons_12 : decode cX6_hasAllLessons 12 = .ok (.iload_n 3, 1) := by decide +kernel
theorem dX6_hasAllLessons_13 : decode cX6_hasAllLessons 13 = .ok (.laload, 1) := by decide +kernel
theorem dX6_hasAllLessons_14 : decode cX6_hasAllLessons 14 = .ok (.invokevirtual 193, 3) := by decide +kernel
theorem dX6_hasAllLessons_17 : decode cX6_hasAllLessons 17 = .ok (.ifCond .ne 5, 3) := by decide +kernel
theorem dX6_hasAllLessons_20 : decode cX6_hasAllLessons 20 = .ok (.iconst 0, 1) := by decide +kernel
theorem dX6_hasAllLessons_21 : decode cX6_hasAllLessons 21 = .ok (.ireturn, 1) := by decide +kernel
theorem dX6_hasAllLessons_22 : decode cX6_hasAllLessons 22 = .ok (.iinc 3 1, 3) := by decide +kernel
theorem dX6_hasAllLessons_25 : decode cX6_hasAllLessons 25 = .ok (.goto (-23), 3) := by decide +kernel
theorem dX6_hasAllLessons_28 : decode cX6_hasAllLessons 28 = .ok (.iconst 1, 1) := by decide +kernel
theorem dX6_hasAllLessons_29 : decode cX6_hasAllLessons 29 = .ok (.ireturn, 1) := by decide +kernel
theorem dX6_letterAt_0 : decode cX6_letterAt 0 = .ok (.aload_n 0, 1) := by decide +kernel
theorem dX6_letterAt_1 : decode cX6_letterAt 1 = .ok (.getfield 17, 3) := by decide +kernel
theorem dX6_letterAt_4 : decode cX6_letterAt 4 = .ok (.aload_n 1, 1) := by decide +kernel
theorem dX6_letterAt_5 : decode cX6_letterAt 5 = .ok (.getfield 197, 3) := by decide +kernel
theorem dX6_letterAt_8 : decode cX6_letterAt 8 = .ok (.iload_n 2, 1) := by decide +kernel
theorem dX6_letterAt_9 : decode cX6_letterAt 9 = .ok (.iaload, 1) := by decide +kernel
theorem dX6_letterAt_10 : decode cX6_letterAt 10 = .ok (.aaload, 1) := by decide +kernel
theorem dX6_letterAt_11 : decode cX6_letterAt 11 = .ok (.getfield 201, 3) := by decide +kernel
theorem dX6_letterAt_14 : decode cX6_letterAt 14 = .ok (.ireturn, 1) := by decide +kernel
theorem dX6_lets_0 : decode cX6_lets 0 = .ok (.iload_n 1, 1) := by decide +kernel
theorem dX6_lets_1 : decode cX6_lets 1 = .ok (.iconst 1, 1) := by decide +kernel
theorem dX6_lets_2 : decode cX6_lets 2 = .ok (.iload_n 2, 1) := by decide +kernel
theorem dX6_lets_3 : decode cX6_lets 3 = .ok (.ishl, 1) := by decide +kernel
theorem dX6_lets_4 : decode cX6_lets 4 = .ok (.iand, 1) := by decide +kernel
theorem dX6_lets_5 : decode cX6_lets 5 = .ok (.ifCond .ne 23, 3) := by decide +kernel
theorem dX6_lets_8 : decode cX6_lets 8 = .ok (.aload_n 0, 1) := by decide +kernel
theorem dX6_lets_9 : decode cX6_lets 9 = .ok (.getfield 17, 3) := by decide +kernel
theorem dX6_lets_12 : decode cX6_lets 12 = .ok (.iload_n 2, 1) := by decide +kernel
theorem dX6_lets_13 : decode cX6_lets 13 = .ok (.aaload, 1) := by decide +kernel
theorem dX6_lets_14 : decode cX6_lets 14 = .ok (.getfield 161, 3) := by decide +kernel
theorem dX6_lets_17 : decode cX6_lets 17 = .ok (.iload_n 1, 1) := by decide +kernel
theorem dX6_lets_18 : decode cX6_lets 18 = .ok (.iconst (-1), 1) := by decide +kernel
theorem dX6_lets_19 : decode cX6_lets 19 = .ok (.ixor, 1) := by decide +kernel
theorem dX6_lets_20 : decode cX6_lets 20 = .ok (.iand, 1) := by decide +kernel
theorem dX6_lets_21 : decode cX6_lets 21 = .ok (.ifCond .ne 7, 3) := by decide +kernel
theorem dX6_lets_24 : decode cX6_lets 24 = .ok (.iconst 1, 1) := by decide +kernel
theorem dX6_lets_25 : decode cX6_lets 25 = .ok (.goto 4, 3) := by decide +kernel
theorem dX6_lets_28 : decode cX6_lets 28 = .ok (.iconst 0, 1) := by decide +kernel
theorem dX6_lets_29 : decode cX6_lets 29 = .ok (.ireturn, 1) := by decide +kernel
theorem dX6_canPay_0 : decode cX6_canPay 0 = .ok (.aload_n 1, 1) := by decide +kernel
theorem dX6_canPay_1 : decode cX6_canPay 1 = .ok (.getfield 181, 3) := by decide +kernel
theorem dX6_canPay_4 : decode cX6_canPay 4 = .ok (.aload_n 0, 1) := by decide +kernel
theorem dX6_canPay_5 : decode cX6_canPay 5 = .ok (.getfield 17, 3) := by decide +kernel
theorem dX6_canPay_8 : decode cX6_canPay 8 = .ok (.iload_n 2, 1) := by decide +kernel
theorem dX6_canPay_9 : decode cX6_canPay 9 = .ok (.aaload, 1) := by decide +kernel
theorem dX6_canPay_10 : decode cX6_canPay 10 = .ok (.getfield 139, 3) := by decide +kernel
theorem dX6_canPay_13 : decode cX6_canPay 13 = .ok (.if_icmp .lt 7, 3) := by decide +kernel
theorem dX6_canPay_16 : decode cX6_canPay 16 = .ok (.iconst 1, 1) := by decide +kernel
theorem dX6_canPay_17 : decode cX6_canPay 17 = .ok (.goto 4, 3) := by decide +kernel
theorem dX6_canPay_20 : decode cX6_canPay 20 = .ok (.iconst 0, 1) := by decide +kernel
theorem dX6_canPay_21 : decode cX6_canPay 21 = .ok (.ireturn, 1) := by decide +kernel
theorem dX6_daysFor_0 : decode cX6_daysFor 0 = .ok (.aload_n 0, 1) := by decide +kernel
theorem dX6_daysFor_1 : decode cX6_daysFor 1 = .ok (.getfield 17, 3) := by decide +kernel
theorem dX6_daysFor_4 : decode cX6_daysFor 4 = .ok (.iload_n 2, 1) := by decide +kernel
theorem dX6_daysFor_5 : decode cX6_daysFor 5 = .ok (.aaload, 1) := by decide +kernel
theorem dX6_daysFor_6 : decode cX6_daysFor 6 = .ok (.getfield 132, 3) := by decide +kernel
theorem dX6_daysFor_9 : decode cX6_daysFor 9 = .ok (.aload_n 1, 1) := by decide +kernel
theorem dX6_daysFor_10 : decode cX6_daysFor 10 = .ok (.getfield 178, 3) := by decide +kernel
theorem dX6_daysFor_13 : decode cX6_daysFor 13 = .ok (.isub, 1) := by decide +kernel
theorem dX6_daysFor_14 : decode cX6_daysFor 14 = .ok (.istore_n 3, 1) := by decide +kernel
theorem dX6_daysFor_15 : decode cX6_daysFor 15 = .ok (.iload_n 3, 1) := by decide +kernel
theorem dX6_daysFor_16 : decode cX6_daysFor 16 = .ok (.iconst 1, 1) := by decide +kernel
theorem dX6_daysFor_17 : decode cX6_daysFor 17 = .ok (.if_icmp .ge 7, 3) := by decide +kernel
theorem dX6_daysFor_20 : decode cX6_daysFor 20 = .ok (.iconst 1, 1) := by decide +kernel
theorem dX6_daysFor_21 : decode cX6_daysFor 21 = .ok (.goto 4, 3) := by decide +kernel
theorem dX6_daysFor_24 : decode cX6_daysFor 24 = .ok (.iload_n 3, 1) := by decide +kernel
theorem dX6_daysFor_25 : decode cX6_daysFor 25 = .ok (.ireturn, 1) := by decide +kernel
theorem dX6_readySet_0 : decode cX6_readySet 0 = .ok (.iconst 0, 1) := by decide +kernel
theorem dX6_readySet_1 : decode cX6_readySet 1 = .ok (.istore_n 3, 1) := by decide +kernel
theorem dX6_readySet_2 : decode cX6_readySet 2 = .ok (.iconst 0, 1) := by decide +kernel
theorem dX6_readySet_3 : decode cX6_readySet 3 = .ok (.istore 4, 2) := by decide +kernel
theorem dX6_readySet_5 : decode cX6_readySet 5 = .ok (.iload 4, 2) := by decide +kernel
theorem dX6_readySet_7 : decode cX6_readySet 7 = .ok (.aload_n 0, 1) := by decide +kernel
theorem dX6_readySet_8 : decode cX6_readySet 8 = .ok (.getfield 47, 3) := by decide +kernel
theorem dX6_readySet_11 : decode cX6_readySet 11 = .ok (.if_icmp .ge 43, 3) := by decide +kernel
theorem dX6_readySet_14 : decode cX6_readySet 14 = .ok (.aload_n 0, 1) := by decide +kernel
theorem dX6_readySet_15 : decode cX6_readySet 15 = .ok (.aload_n 1, 1) := by decide +kernel
theorem dX6_readySet_16 : decode cX6_readySet 16 = .ok (.getfield 204, 3) := by decide +kernel
theorem dX6_readySet_19 : decode cX6_readySet 19 = .ok (.iload 4, 2) := by decide +kernel
theorem dX6_readySet_21 : decode cX6_readySet 21 = .ok (.invokevirtual 207, 3) := by decide +kernel
theorem dX6_readySet_24 : decode cX6_readySet 24 = .ok (.ifCond .eq 24, 3) := by decide +kernel
theorem dX6_readySet_27 : decode cX6_readySet 27 = .ok (.iload_n 2, 1) := by decide +kernel
theorem dX6_readySet_28 : decode cX6_readySet 28 = .ok (.ifCond .eq 13, 3) := by decide +kernel
theorem dX6_readySet_31 : decode cX6_readySet 31 = .ok (.aload_n 0, 1) := by decide +kernel
theorem dX6_readySet_32 : decode cX6_readySet 32 = .ok (.aload_n 1, 1) := by decide +kernel
theorem dX6_readySet_33 : decode cX6_readySet 33 = .ok (.iload 4, 2) := by decide +kernel
theorem dX6_readySet_35 : decode cX6_readySet 35 = .ok (.invokevirtual 211, 3) := by decide +kernel
theorem dX6_readySet_38 : decode cX6_readySet 38 = .ok (.ifCond .eq 10, 3) := by decide +kernel
theorem dX6_readySet_41 : decode cX6_readySet 41 = .ok (.iload_n 3, 1) := by decide +kernel
theorem dX6_readySet_42 : decode cX6_readySet 42 = .ok (.iconst 1, 1) := by decide +kernel
theorem dX6_readySet_43 : decode cX6_readySet 43 = .ok (.iload 4, 2) := by decide +kernel
theorem dX6_readySet_45 : decode cX6_readySet 45 = .ok (.ishl, 1) := by decide +kernel
theorem dX6_readySet_46 : decode cX6_readySet 46 = .ok (.ior, 1) := by decide +kernel
theorem dX6_readySet_47 : decode cX6_readySet 47 = .ok (.istore_n 3, 1) := by decide +kernel
theorem dX6_readySet_48 : decode cX6_readySet 48 = .ok (.iinc 4 1, 3) := by decide +kernel
theorem dX6_readySet_51 : decode cX6_readySet 51 = .ok (.goto (-46), 3) := by decide +kernel
theorem dX6_readySet_54 : decode cX6_readySet 54 = .ok (.iload_n 3, 1) := by decide +kernel
theorem dX6_readySet_55 : decode cX6_readySet 55 = .ok (.ireturn, 1) := by decide +kernel
theorem dX6_teach_0 : decode cX6_teach 0 = .ok (.aload_n 1, 1) := by decide +kernel
theorem dX6_teach_1 : decode cX6_teach 1 = .ok (.getfield 215, 3) := by decide +kernel
theorem dX6_teach_4 : decode cX6_teach 4 = .ok (.bipush 12, 2) := by decide +kernel
theorem dX6_teach_6 : decode cX6_teach 6 = .ok (.if_icmp .lt 4, 3) := by decide +kernel
theorem dX6_teach_9 : decode cX6_teach 9 = .ok (.return_, 1) := by decide +kernel
theorem dX6_teach_10 : decode cX6_teach 10 = .ok (.aload_n 1, 1) := by decide +kernel
theorem dX6_teach_11 : decode cX6_teach 11 = .ok (.getfield 197, 3) := by decide +kernel
theorem dX6_teach_14 : decode cX6_teach 14 = .ok (.aload_n 1, 1) := by decide +kernel
theorem dX6_teach_15 : decode cX6_teach 15 = .ok (.getfield 215, 3) := by decide +kernel
theorem dX6_teach_18 : decode cX6_teach 18 = .ok (.iload_n 2, 1) := by decide +kernel
theorem dX6_teach_19 : decode cX6_teach 19 = .ok (.iastore, 1) := by decide +kernel
theorem dX6_teach_20 : decode cX6_teach 20 = .ok (.aload_n 1, 1) := by decide +kernel
theorem dX6_teach_21 : decode cX6_teach 21 = .ok (.dup, 1) := by decide +kernel
theorem dX6_teach_22 : decode cX6_teach 22 = .ok (.getfield 215, 3) := by decide +kernel
theorem dX6_teach_25 : decode cX6_teach 25 = .ok (.iconst 1, 1) := by decide +kernel
theorem dX6_teach_26 : decode cX6_teach 26 = .ok (.iadd, 1) := by decide +kernel
theorem dX6_teach_27 : decode cX6_teach 27 = .ok (.putfield 215, 3) := by decide +kernel
theorem dX6_teach_30 : decode cX6_teach 30 = .ok (.aload_n 1, 1) := by decide +kernel
theorem dX6_teach_31 : decode cX6_teach 31 = .ok (.dup, 1) := by decide +kernel
theorem dX6_teach_32 : decode cX6_teach 32 = .ok (.getfield 204, 3) := by decide +kernel
theorem dX6_teach_35 : decode cX6_teach 35 = .ok (.iconst 1, 1) := by decide +kernel
theorem dX6_teach_36 : decode cX6_teach 36 = .ok (.iload_n 2, 1) := by decide +kernel
theorem dX6_teach_37 : decode cX6_teach 37 = .ok (.ishl, 1) := by decide +kernel
theorem dX6_teach_38 : decode cX6_teach 38 = .ok (.ior, 1) := by decide +kernel
theorem dX6_teach_39 : decode cX6_teach 39 = .ok (.putfield 204, 3) := by decide +kernel
theorem dX6_teach_42 : decode cX6_teach 42 = .ok (.aload_n 1, 1) := by decide +kernel
theorem dX6_teach_43 : decode cX6_teach 43 = .ok (.dup, 1) := by decide +kernel
theorem dX6_teach_44 : decode cX6_teach 44 = .ok (.getfield 218, 3) := by decide +kernel
theorem dX6_teach_47 : decode cX6_teach 47 = .ok (.aload_n 0, 1) := by decide +kernel
theorem dX6_teach_48 : decode cX6_teach 48 = .ok (.aload_n 1, 1) := by decide +kernel
theorem dX6_teach_49 : decode cX6_teach 49 = .ok (.iload_n 2, 1) := by decide +kernel
theorem dX6_teach_50 : decode cX6_teach 50 = .ok (.invokevirtual 221, 3) := by decide +kernel
theorem dX6_teach_53 : decode cX6_teach 53 = .ok (.iadd, 1) := by decide +kernel
theorem dX6_teach_54 : decode cX6_teach 54 = .ok (.putfield 218, 3) := by decide +kernel
theorem dX6_teach_57 : decode cX6_teach 57 = .ok (.aload_n 1, 1) := by decide +kernel
theorem dX6_teach_58 : decode cX6_teach 58 = .ok (.dup, 1) := by decide +kernel
theorem dX6_teach_59 : decode cX6_teach 59 = .ok (.getfield 181, 3) := by decide +kernel
theorem dX6_teach_62 : decode cX6_teach 62 = .ok (.aload_n 0, 1) := by decide +kernel
theorem dX6_teach_63 : decode cX6_teach 63 = .ok (.getfield 17, 3) := by decide +kernel
theorem dX6_teach_66 : decode cX6_teach 66 = .ok (.iload_n 2, 1) := by decide +kernel
theorem dX6_teach_67 : decode cX6_teach 67 = .ok (.aaload, 1) := by decide +kernel
theorem dX6_teach_68 : decode cX6_teach 68 = .ok (.getfield 139, 3) := by decide +kernel
theorem dX6_teach_71 : decode cX6_teach 71 = .ok (.isub, 1) := by decide +kernel
theorem dX6_teach_72 : decode cX6_teach 72 = .ok (.putfield 181, 3) := by decide +kernel
theorem dX6_teach_75 : decode cX6_teach 75 = .ok (.return_, 1) := by decide +kernel
theorem dX6_choose_0 : decode cX6_choose 0 = .ok (.iconst (-1), 1) := by decide +kernel
theorem dX6_choose_1 : decode cX6_choose 1 = .ok (.istore_n 2, 1) := by decide +kernel
theorem dX6_choose_2 : decode cX6_choose 2 = .ok (.iconst 0, 1) := by decide +kernel
theorem dX6_choose_3 : decode cX6_choose 3 = .ok (.istore_n 3, 1) := by decide +kernel
theorem dX6_choose_4 : decode cX6_choose 4 = .ok (.iconst 0, 1) := by decide +kernel
theorem dX6_choose_5 : decode cX6_choose 5 = .ok (.istore 4, 2) := by decide +kernel
theorem dX6_choose_7 : decode cX6_choose 7 = .ok (.iload 4, 2) := by decide +kernel
theorem dX6_choose_9 : decode cX6_choose 9 = .ok (.aload_n 0, 1) := by decide +kernel
theorem dX6_choose_10 : decode cX6_choose 10 = .ok (.getfield 47, 3) := by decide +kernel
theorem dX6_choose_13 : decode cX6_choose 13 = .ok (.if_icmp .ge 138, 3) := by decide +kernel
theorem dX6_choose_16 : decode cX6_choose 16 = .ok (.aload_n 0, 1) := by decide +kernel
theorem dX6_choose_17 : decode cX6_choose 17 = .ok (.aload_n 1, 1) := by decide +kernel
theorem dX6_choose_18 : decode cX6_choose 18 = .ok (.getfield 204, 3) := by decide +kernel
theorem dX6_choose_21 : decode cX6_choose 21 = .ok (.iload 4, 2) := by decide +kernel
theorem dX6_choose_23 : decode cX6_choose 23 = .ok (.invokevirtual 207, 3) := by decide +kernel
theorem dX6_choose_26 : decode cX6_choose 26 = .ok (.ifCond .eq 119, 3) := by decide +kernel
theorem dX6_choose_29 : decode cX6_choose 29 = .ok (.aload_n 0, 1) := by decide +kernel
theorem dX6_choose_30 : decode cX6_choose 30 = .ok (.aload_n 1, 1) := by decide +kernel
theorem dX6_choose_31 : decode cX6_choose 31 = .ok (.iload 4, 2) := by decide +kernel
theorem dX6_choose_33 : decode cX6_choose 33 = .ok (.invokevirtual 211, 3) := by decide +kernel
theorem dX6_choose_36 : decode cX6_choose 36 = .ok (.ifCond .ne 6, 3) := by decide +kernel
theorem dX6_choose_39 : decode cX6_choose 39 = .ok (.goto 106, 3) := by decide +kernel
theorem dX6_choose_42 : decode cX6_choose 42 = .ok (.aload_n 0, 1) := by decide +kernel
theorem dX6_choose_43 : decode cX6_choose 43 = .ok (.getfield 30, 3) := by decide +kernel
theorem dX6_choose_46 : decode cX6_choose 46 = .ok (.aload_n 0, 1) := by decide +kernel
theorem dX6_choose_47 : decode cX6_choose 47 = .ok (.aload_n 1, 1) := by decide +kernel
theorem dX6_choose_48 : decode cX6_choose 48 = .ok (.iconst (-1), 1) := by decide +kernel
theorem dX6_choose_49 : decode cX6_choose 49 = .ok (.invokevirtual 225, 3) := by decide +kernel
theorem dX6_choose_52 : decode cX6_choose 52 = .ok (.aload_n 0, 1) := by decide +kernel
theorem dX6_choose_53 : decode cX6_choose 53 = .ok (.getfield 30, 3) := by decide +kernel
theorem dX6_choose_56 : decode cX6_choose 56 = .ok (.aload_n 0, 1) := by decide +kernel
theorem dX6_choose_57 : decode cX6_choose 57 = .ok (.getfield 17, 3) := by decide +kernel
theorem dX6_choose_60 : decode cX6_choose 60 = .ok (.iload 4, 2) := by decide +kernel
theorem dX6_choose_62 : decode cX6_choose 62 = .ok (.aaload, 1) := by decide +kernel
theorem dX6_choose_63 : decode cX6_choose 63 = .ok (.getfield 229, 3) := by decide +kernel
theorem dX6_choose_66 : decode cX6_choose 66 = .ok (.invokevirtual 232, 3) := by decide +kernel
theorem dX6_choose_69 : decode cX6_choose 69 = .ok (.aload_n 0, 1) := by decide +kernel
theorem dX6_choose_70 : decode cX6_choose 70 = .ok (.getfield 30, 3) := by decide +kernel
theorem dX6_choose_73 : decode cX6_choose 73 = .ok (.aload_n 0, 1) := by decide +kernel
theorem dX6_choose_74 : decode cX6_choose 74 = .ok (.getfield 41, 3) := by decide +kernel
theorem dX6_choose_77 : decode cX6_choose 77 = .ok (.invokevirtual 236, 3) := by decide +kernel
theorem dX6_choose_80 : decode cX6_choose 80 = .ok (.iconst (-1), 1) := by decide +kernel
theorem dX6_choose_81 : decode cX6_choose 81 = .ok (.if_icmp .ne 7, 3) := by decide +kernel
theorem dX6_choose_84 : decode cX6_choose 84 = .ok (.iconst 1, 1) := by decide +kernel
theorem dX6_choose_85 : decode cX6_choose 85 = .ok (.goto 4, 3) := by decide +kernel
theorem dX6_choose_88 : decode cX6_choose 88 = .ok (.iconst 0, 1) := by decide +kernel
theorem dX6_choose_89 : decode cX6_choose 89 = .ok (.istore 5, 2) := by decide +kernel
theorem dX6_choose_91 : decode cX6_choose 91 = .ok (.iload_n 2, 1) := by decide +kernel
theorem dX6_choose_92 : decode cX6_choose 92 = .ok (.iconst (-1), 1) := by decide +kernel
theorem dX6_choose_93 : decode cX6_choose 93 = .ok (.if_icmp .eq 34, 3) := by decide +kernel
theorem dX6_choose_96 : decode cX6_choose 96 = .ok (.iload 5, 2) := by decide +kernel
theorem dX6_choose_98 : decode cX6_choose 98 = .ok (.ifCond .eq 7, 3) := by decide +kernel
theorem dX6_choose_101 : decode cX6_choose 101 = .ok (.iload_n 3, 1) := by decide +kernel
theorem dX6_choose_102 : decode cX6_choose 102 = .ok (.ifCond .eq 25, 3) := by decide +kernel
theorem dX6_choose_105 : decode cX6_choose 105 = .ok (.iload 5, 2) := by decide +kernel
theorem dX6_choose_107 : decode cX6_choose 107 = .ok (.iload_n 3, 1) := by decide +kernel
theorem dX6_choose_108 : decode cX6_choose 108 = .ok (.if_icmp .ne 23, 3) := by decide +kernel
theorem dX6_choose_111 : decode cX6_choose 111 = .ok (.aload_n 0, 1) := by decide +kernel
theorem dX6_choose_112 : decode cX6_choose 112 = .ok (.aload_n 1, 1) := by decide +kernel
theorem dX6_choose_113 : decode cX6_choose 113 = .ok (.iload 4, 2) := by decide +kernel
theorem dX6_choose_115 : decode cX6_choose 115 = .ok (.invokevirtual 221, 3) := by decide +kernel
theorem dX6_choose_118 : decode cX6_choose 118 = .ok (.aload_n 0, 1) := by decide +kernel
theorem dX6_choose_119 : decode cX6_choose 119 = .ok (.aload_n 1, 1) := by decide +kernel
theorem dX6_choose_120 : decode cX6_choose 120 = .ok (.iload_n 2, 1) := by decide +kernel
theorem dX6_choose_121 : decode cX6_choose 121 = .ok (.invokevirtual 221, 3) := by decide +kernel
theorem dX6_choose_124 : decode cX6_choose 124 = .ok (.if_icmp .ge 7, 3) := by decide +kernel
theorem dX6_choose_127 : decode cX6_choose 127 = .ok (.iconst 1, 1) := by decide +kernel
theorem dX6_choose_128 : decode cX6_choose 128 = .ok (.goto 4, 3) := by decide +kernel
theorem dX6_choose_131 : decode cX6_choose 131 = .ok (.iconst 0, 1) := by decide +kernel
theorem dX6_choose_132 : decode cX6_choose 132 = .ok (.istore 6, 2) := by decide +kernel
theorem dX6_choose_134 : decode cX6_choose 134 = .ok (.iload 6, 2) := by decide +kernel
theorem dX6_choose_136 : decode cX6_choose 136 = .ok (.ifCond .eq 9, 3) := by decide +kernel
theorem dX6_choose_139 : decode cX6_choose 139 = .ok (.iload 4, 2) := by decide +kernel
theorem dX6_choose_141 : decode cX6_choose 141 = .ok (.istore_n 2, 1) := by decide +kernel
theorem dX6_choose_142 : decode cX6_choose 142 = .ok (.iload 5, 2) := by decide +kernel
theorem dX6_choose_144 : decode cX6_choose 144 = .ok (.istore_n 3, 1) := by decide +kernel
theorem dX6_choose_145 : decode cX6_choose 145 = .ok (.iinc 4 1, 3) := by decide +kernel
theorem dX6_choose_148 : decode cX6_choose 148 = .ok (.goto (-141), 3) := by decide +kernel
theorem dX6_choose_151 : decode cX6_choose 151 = .ok (.iload_n 2, 1) := by decide +kernel
theorem dX6_choose_152 : decode cX6_choose 152 = .ok (.ireturn, 1) := by decide +kernel
theorem dX6_isSaid_0 : decode cX6_isSaid 0 = .ok (.aload_n 0, 1) := by decide +kernel
theorem dX6_isSaid_1 : decode cX6_isSaid 1 = .ok (.getfield 30, 3) := by decide +kernel
theorem dX6_isSaid_4 : decode cX6_isSaid 4 = .ok (.aload_n 0, 1) := by decide +kernel
theorem dX6_isSaid_5 : decode cX6_isSaid 5 = .ok (.aload_n 1, 1) := by decide +kernel
theorem dX6_isSaid_6 : decode cX6_isSaid 6 = .ok (.iload_n 2, 1) := by decide +kernel
theorem dX6_isSaid_7 : decode cX6_isSaid 7 = .ok (.invokevirtual 225, 3) := by decide +kernel
theorem dX6_isSaid_10 : decode cX6_isSaid 10 = .ok (.aload_n 0, 1) := by decide +kernel
theorem dX6_isSaid_11 : decode cX6_isSaid 11 = .ok (.getfield 30, 3) := by decide +kernel
theorem dX6_isSaid_14 : decode cX6_isSaid 14 = .ok (.getfield 239, 3) := by decide +kernel
theorem dX6_isSaid_17 : decode cX6_isSaid 17 = .ok (.ifCond .le 22, 3) := by decide +kernel
theorem dX6_isSaid_20 : decode cX6_isSaid 20 = .ok (.aload_n 0, 1) := by decide +kernel
theorem dX6_isSaid_21 : decode cX6_isSaid 21 = .ok (.getfield 30, 3) := by decide +kernel
theorem dX6_isSaid_24 : decode cX6_isSaid 24 = .ok (.aload_n 0, 1) := by decide +kernel
theorem dX6_isSaid_25 : decode cX6_isSaid 25 = .ok (.getfield 41, 3) := by decide +kernel
theorem dX6_isSaid_28 : decode cX6_isSaid 28 = .ok (.invokevirtual 236, 3) := by decide +kernel
theorem dX6_isSaid_31 : decode cX6_isSaid 31 = .ok (.iconst (-1), 1) := by decide +kernel
theorem dX6_isSaid_32 : decode cX6_isSaid 32 = .ok (.if_icmp .ne 7, 3) := by decide +kernel
theorem dX6_isSaid_35 : decode cX6_isSaid 35 = .ok (.iconst 1, 1) := by decide +kernel
theorem dX6_isSaid_36 : decode cX6_isSaid 36 = .ok (.goto 4, 3) := by decide +kernel
theorem dX6_isSaid_39 : decode cX6_isSaid 39 = .ok (.iconst 0, 1) := by decide +kernel
theorem dX6_isSaid_40 : decode cX6_isSaid 40 = .ok (.ireturn, 1) := by decide +kernel
theorem dX6_weakPlace_0 : decode cX6_weakPlace 0 = .ok (.aload_n 0, 1) := by decide +kernel
theorem dX6_weakPlace_1 : decode cX6_weakPlace 1 = .ok (.aload_n 1, 1) := by decide +kernel
theorem dX6_weakPlace_2 : decode cX6_weakPlace 2 = .ok (.iconst (-1), 1) := by decide +kernel
theorem dX6_weakPlace_3 : decode cX6_weakPlace 3 = .ok (.invokevirtual 240, 3) := by decide +kernel
theorem dX6_weakPlace_6 : decode cX6_weakPlace 6 = .ok (.ifCond .ne 5, 3) := by decide +kernel
theorem dX6_weakPlace_9 : decode cX6_weakPlace 9 = .ok (.iconst (-1), 1) := by decide +kernel
theorem dX6_weakPlace_10 : decode cX6_weakPlace 10 = .ok (.ireturn, 1) := by decide +kernel
theorem dX6_weakPlace_11 : decode cX6_weakPlace 11 = .ok (.iconst 0, 1) := by decide +kernel
theorem dX6_weakPlace_12 : decode cX6_weakPlace 12 = .ok (.istore_n 2, 1) := by decide +kernel
theorem dX6_weakPlace_13 : decode cX6_weakPlace 13 = .ok (.iload_n 2, 1) := by decide +kernel
theorem dX6_weakPlace_14 : decode cX6_weakPlace 14 = .ok (.aload_n 1, 1) := by decide +kernel
theorem dX6_weakPlace_15 : decode cX6_weakPlace 15 = .ok (.getfield 215, 3) := by decide +kernel
theorem dX6_weakPlace_18 : decode cX6_weakPlace 18 = .ok (.if_icmp .ge 20, 3) := by decide +kernel
theorem dX6_weakPlace_21 : decode cX6_weakPlace 21 = .ok (.aload_n 0, 1) := by decide +kernel
theorem dX6_weakPlace_22 : decode cX6_weakPlace 22 = .ok (.aload_n 1, 1) := by decide +kernel
theorem dX6_weakPlace_23 : decode cX6_weakPlace 23 = .ok (.iload_n 2, 1) := by decide +kernel
theorem dX6_weakPlace_24 : decode cX6_weakPlace 24 = .ok (.invokevirtual 240, 3) := by decide +kernel
theorem dX6_weakPlace_27 : decode cX6_weakPlace 27 = .ok (.ifCond .ne 5, 3) := by decide +kernel
theorem dX6_weakPlace_30 : decode cX6_weakPlace 30 = .ok (.iload_n 2, 1) := by decide +kernel
theorem dX6_weakPlace_31 : decode cX6_weakPlace 31 = .ok (.ireturn, 1) := by decide +kernel
theorem dX6_weakPlace_32 : decode cX6_weakPlace 32 = .ok (.iinc 2 1, 3) := by decide +kernel
theorem dX6_weakPlace_35 : decode cX6_weakPlace 35 = .ok (.goto (-22), 3) := by decide +kernel
theorem dX6_weakPlace_38 : decode cX6_weakPlace 38 = .ok (.iconst (-1), 1) := by decide +kernel
theorem dX6_weakPlace_39 : decode cX6_weakPlace 39 = .ok (.ireturn, 1) := by decide +kernel
theorem dX6_sameAtEnd_0 : decode cX6_sameAtEnd 0 = .ok (.aload_n 1, 1) := by decide +kernel
theorem dX6_sameAtEnd_1 : decode cX6_sameAtEnd 1 = .ok (.getfield 215, 3) := by decide +kernel
theorem dX6_sameAtEnd_4 : decode cX6_sameAtEnd 4 = .ok (.aload_n 2, 1) := by decide +kernel
theorem dX6_sameAtEnd_5 : decode cX6_sameAtEnd 5 = .ok (.getfield 215, 3) := by decide +kernel
theorem dX6_sameAtEnd_8 : decode cX6_sameAtEnd 8 = .ok (.invokestatic 243, 3) := by decide +kernel
theorem dX6_sameAtEnd_11 : decode cX6_sameAtEnd 11 = .ok (.istore_n 3, 1) := by decide +kernel
theorem dX6_sameAtEnd_12 : decode cX6_sameAtEnd 12 = .ok (.iconst 0, 1) := by decide +kernel
theorem dX6_sameAtEnd_13 : decode cX6_sameAtEnd 13 = .ok (.istore 4, 2) := by decide +kernel
theorem dX6_sameAtEnd_15 : decode cX6_sameAtEnd 15 = .ok (.iload 4, 2) := by decide +kernel
theorem dX6_sameAtEnd_17 : decode cX6_sameAtEnd 17 = .ok (.iload_n 3, 1) := by decide +kernel
theorem dX6_sameAtEnd_18 : decode cX6_sameAtEnd 18 = .ok (.if_icmp .ge 43, 3) := by decide +kernel
theorem dX6_sameAtEnd_21 : decode cX6_sameAtEnd 21 = .ok (.aload_n 0, 1) := by decide +kernel
theorem dX6_sameAtEnd_22 : decode cX6_sameAtEnd 22 = .ok (.aload_n 1, 1) := by decide +kernel
theorem dX6_sameAtEnd_23 : decode cX6_sameAtEnd 23 = .ok (.aload_n 1, 1) := by decide +kernel
theorem dX6_sameAtEnd_24 : decode cX6_sameAtEnd 24 = .ok (.getfield 215, 3) := by decide +kernel
theorem dX6_sameAtEnd_27 : decode cX6_sameAtEnd 27 = .ok (.iconst 1, 1) := by decide +kernel
theorem dX6_sameAtEnd_28 : decode cX6_sameAtEnd 28 = .ok (.isub, 1) := by decide +kernel
theorem dX6_sameAtEnd_29 : decode cX6_sameAtEnd 29 = .ok (.iload 4, 2) := by decide +kernel
theorem dX6_sameAtEnd_31 : decode cX6_sameAtEnd 31 = .ok (.isub, 1) := by decide +kernel
theorem dX6_sameAtEnd_32 : decode cX6_sameAtEnd 32 = .ok (.invokevirtual 248, 3) := by decide +kernel
theorem dX6_sameAtEnd_35 : decode cX6_sameAtEnd 35 = .ok (.aload_n 0, 1) := by decide +kernel
theorem dX6_sameAtEnd_36 : decode cX6_sameAtEnd 36 = .ok (.aload_n 2, 1) := by decide +kernel
theorem dX6_sameAtEnd_37 : decode cX6_sameAtEnd 37 = .ok (.aload_n 2, 1) := by decide +kernel
theorem dX6_sameAtEnd_38 : decode cX6_sameAtEnd 38 = .ok (.getfield 215, 3) := by decide +kernel
theorem dX6_sameAtEnd_41 : decode cX6_sameAtEnd 41 = .ok (.iconst 1, 1) := by decide +kernel
theorem dX6_sameAtEnd_42 : decode cX6_sameAtEnd 42 = .ok (.isub, 1) := by decide +kernel
theorem dX6_sameAtEnd_43 : decode cX6_sameAtEnd 43 = .ok (.iload 4, 2) := by decide +kernel
theorem dX6_sameAtEnd_45 : decode cX6_sameAtEnd 45 = .ok (.isub, 1) := by decide +kernel
theorem dX6_sameAtEnd_46 : decode cX6_sameAtEnd 46 = .ok (.invokevirtual 248, 3) := by decide +kernel
theorem dX6_sameAtEnd_49 : decode cX6_sameAtEnd 49 = .ok (.if_icmp .eq 6, 3) := by decide +kernel
theorem dX6_sameAtEnd_52 : decode cX6_sameAtEnd 52 = .ok (.iload 4, 2) := by decide +kernel
theorem dX6_sameAtEnd_54 : decode cX6_sameAtEnd 54 = .ok (.ireturn, 1) := by decide +kernel
theorem dX6_sameAtEnd_55 : decode cX6_sameAtEnd 55 = .ok (.iinc 4 1, 3) := by decide +kernel
theorem dX6_sameAtEnd_58 : decode cX6_sameAtEnd 58 = .ok (.goto (-43), 3) := by decide +kernel
theorem dX6_sameAtEnd_61 : decode cX6_sameAtEnd 61 = .ok (.iload_n 3, 1) := by decide +kernel
theorem dX6_sameAtEnd_62 : decode cX6_sameAtEnd 62 = .ok (.ireturn, 1) := by decide +kernel
theorem dX6_unlikePlace_0 : decode cX6_unlikePlace 0 = .ok (.aload_n 1, 1) := by decide +kernel
theorem dX6_unlikePlace_1 : decode cX6_unlikePlace 1 = .ok (.getfield 215, 3) := by decide +kernel
theorem dX6_unlikePlace_4 : decode cX6_unlikePlace 4 = .ok (.aload_n 2, 1) := by decide +kernel
theorem dX6_unlikePlace_5 : decode cX6_unlikePlace 5 = .ok (.getfield 215, 3) := by decide +kernel
theorem dX6_unlikePlace_8 : decode cX6_unlikePlace 8 = .ok (.invokestatic 243, 3) := by decide +kernel
theorem dX6_unlikePlace_11 : decode cX6_unlikePlace 11 = .ok (.istore_n 3, 1) := by decide +kernel
theorem dX6_unlikePlace_12 : decode cX6_unlikePlace 12 = .ok (.iconst 0, 1) := by decide +kernel
theorem dX6_unlikePlace_13 : decode cX6_unlikePlace 13 = .ok (.istore 4, 2) := by decide +kernel
theorem dX6_unlikePlace_15 : decode cX6_unlikePlace 15 = .ok (.iload 4, 2) := by decide +kernel
theorem dX6_unlikePlace_17 : decode cX6_unlikePlace 17 = .ok (.iload_n 3, 1) := by decide +kernel
theorem dX6_unlikePlace_18 : decode cX6_unlikePlace 18 = .ok (.if_icmp .ge 29, 3) := by decide +kernel
theorem dX6_unlikePlace_21 : decode cX6_unlikePlace 21 = .ok (.aload_n 0, 1) := by decide +kernel
theorem dX6_unlikePlace_22 : decode cX6_unlikePlace 22 = .ok (.aload_n 1, 1) := by decide +kernel
theorem dX6_unlikePlace_23 : decode cX6_unlikePlace 23 = .ok (.iload 4, 2) := by decide +kernel
theorem dX6_unlikePlace_25 : decode cX6_unlikePlace 25 = .ok (.invokevirtual 248, 3) := by decide +kernel
theorem dX6_unlikePlace_28 : decode cX6_unlikePlace 28 = .ok (.aload_n 0, 1) := by decide +kernel
theorem dX6_unlikePlace_29 : decode cX6_unlikePlace 29 = .ok (.aload_n 2, 1) := by decide +kernel
theorem dX6_unlikePlace_30 : decode cX6_unlikePlace 30 = .ok (.iload 4, 2) := by decide +kernel
theorem dX6_unlikePlace_32 : decode cX6_unlikePlace 32 = .ok (.invokevirtual 248, 3) := by decide +kernel
theorem dX6_unlikePlace_35 : decode cX6_unlikePlace 35 = .ok (.if_icmp .eq 6, 3) := by decide +kernel
theorem dX6_unlikePlace_38 : decode cX6_unlikePlace 38 = .ok (.iload 4, 2) := by decide +kernel
theorem dX6_unlikePlace_40 : decode cX6_unlikePlace 40 = .ok (.ireturn, 1) := by decide +kernel
theorem dX6_unlikePlace_41 : decode cX6_unlikePlace 41 = .ok (.iinc 4 1, 3) := by decide +kernel
theorem dX6_unlikePlace_44 : decode cX6_unlikePlace 44 = .ok (.goto (-29), 3) := by decide +kernel
theorem dX6_unlikePlace_47 : decode cX6_unlikePlace 47 = .ok (.aload_n 1, 1) := by decide +kernel
theorem dX6_unlikePlace_48 : decode cX6_unlikePlace 48 = .ok (.getfield 215, 3) := by decide +kernel
theorem dX6_unlikePlace_51 : decode cX6_unlikePlace 51 = .ok (.aload_n 2, 1) := by decide +kernel
theorem dX6_unlikePlace_52 : decode cX6_unlikePlace 52 = .ok (.getfield 215, 3) := by decide +kernel
theorem dX6_unlikePlace_55 : decode cX6_unlikePlace 55 = .ok (.if_icmp .ne 7, 3) := by decide +kernel
theorem dX6_unlikePlace_58 : decode cX6_unlikePlace 58 = .ok (.iconst (-1), 1) := by decide +kernel
theorem dX6_unlikePlace_59 : decode cX6_unlikePlace 59 = .ok (.goto 4, 3) := by decide +kernel
theorem dX6_unlikePlace_62 : decode cX6_unlikePlace 62 = .ok (.iload_n 3, 1) := by decide +kernel
theorem dX6_unlikePlace_63 : decode cX6_unlikePlace 63 = .ok (.ireturn, 1) := by decide +kernel
theorem dX6_stopOfLife_0 : decode cX6_stopOfLife 0 = .ok (.iload_n 3, 1) := by decide +kernel
theorem dX6_stopOfLife_1 : decode cX6_stopOfLife 1 = .ok (.istore 4, 2) := by decide +kernel
theorem dX6_stopOfLife_3 : decode cX6_stopOfLife 3 = .ok (.iconst 0, 1) := by decide +kernel
theorem dX6_stopOfLife_4 : decode cX6_stopOfLife 4 = .ok (.istore 5, 2) := by decide +kernel
theorem dX6_stopOfLife_6 : decode cX6_stopOfLife 6 = .ok (.iload 5, 2) := by decide +kernel
theorem dX6_stopOfLife_8 : decode cX6_stopOfLife 8 = .ok (.iload_n 2, 1) := by decide +kernel
theorem dX6_stopOfLife_9 : decode cX6_stopOfLife 9 = .ok (.if_icmp .ge 42, 3) := by decide +kernel
theorem dX6_stopOfLife_12 : decode cX6_stopOfLife 12 = .ok (.aload_n 1, 1) := by decide +kernel
theorem dX6_stopOfLife_13 : decode cX6_stopOfLife 13 = .ok (.getfield 188, 3) := by decide +kernel
theorem dX6_stopOfLife_16 : decode cX6_stopOfLife 16 = .ok (.iload 5, 2) := by decide +kernel
theorem dX6_stopOfLife_18 : decode cX6_stopOfLife 18 = .ok (.laload, 1) := by decide +kernel
theorem dX6_stopOfLife_19 : decode cX6_stopOfLife 19 = .ok (.l2i, 1) := by decide +kernel
theorem dX6_stopOfLife_20 : decode cX6_stopOfLife 20 = .ok (.istore 6, 2) := by decide +kernel
theorem dX6_stopOfLife_22 : decode cX6_stopOfLife 22 = .ok (.aload_n 0, 1) := by decide +kernel
theorem dX6_stopOfLife_23 : decode cX6_stopOfLife 23 = .ok (.iload 4, 2) := by decide +kernel
theorem dX6_stopOfLife_25 : decode cX6_stopOfLife 25 = .ok (.iload 6, 2) := by decide +kernel
theorem dX6_stopOfLife_27 : decode cX6_stopOfLife 27 = .ok (.invokevirtual 207, 3) := by decide +kernel
theorem dX6_stopOfLife_30 : decode cX6_stopOfLife 30 = .ok (.ifCond .ne 6, 3) := by decide +kernel
theorem dX6_stopOfLife_33 : decode cX6_stopOfLife 33 = .ok (.iload 5, 2) := by decide +kernel
theorem dX6_stopOfLife_35 : decode cX6_stopOfLife 35 = .ok (.ireturn, 1) := by decide +kernel
theorem dX6_stopOfLife_36 : decode cX6_stopOfLife 36 = .ok (.iload 4, 2) := by decide +kernel
theorem dX6_stopOfLife_38 : decode cX6_stopOfLife 38 = .ok (.iconst 1, 1) := by decide +kernel
theorem dX6_stopOfLife_39 : decode cX6_stopOfLife 39 = .ok (.iload 6, 2) := by decide +kernel
theorem dX6_stopOfLife_41 : decode cX6_stopOfLife 41 = .ok (.ishl, 1) := by decide +kernel
theorem dX6_stopOfLife_42 : decode cX6_stopOfLife 42 = .ok (.ior, 1) := by decide +kernel
theorem dX6_stopOfLife_43 : decode cX6_stopOfLife 43 = .ok (.istore 4, 2) := by decide +kernel
theorem dX6_stopOfLife_45 : decode cX6_stopOfLife 45 = .ok (.iinc 5 1, 3) := by decide +kernel
theorem dX6_stopOfLife_48 : decode cX6_stopOfLife 48 = .ok (.goto (-42), 3) := by decide +kernel
theorem dX6_stopOfLife_51 : decode cX6_stopOfLife 51 = .ok (.iconst (-1), 1) := by decide +kernel
theorem dX6_stopOfLife_52 : decode cX6_stopOfLife 52 = .ok (.ireturn, 1) := by decide +kernel
theorem dX6_allNeeds_0 : decode cX6_allNeeds 0 = .ok (.aload_n 0, 1) := by decide +kernel
theorem dX6_allNeeds_1 : decode cX6_allNeeds 1 = .ok (.getfield 17, 3) := by decide +kernel
theorem dX6_allNeeds_4 : decode cX6_allNeeds 4 = .ok (.iload_n 1, 1) := by decide +kernel
theorem dX6_allNeeds_5 : decode cX6_allNeeds 5 = .ok (.aaload, 1) := by decide +kernel
theorem dX6_allNeeds_6 : decode cX6_allNeeds 6 = .ok (.getfield 161, 3) := by decide +kernel
theorem dX6_allNeeds_9 : decode cX6_allNeeds 9 = .ok (.istore_n 2, 1) := by decide +kernel
theorem dX6_allNeeds_10 : decode cX6_allNeeds 10 = .ok (.iload_n 1, 1) := by decide +kernel
theorem dX6_allNeeds_11 : decode cX6_allNeeds 11 = .ok (.iconst 1, 1) := by decide +kernel
theorem dX6_allNeeds_12 : decode cX6_allNeeds 12 = .ok (.isub, 1) := by decide +kernel
theorem dX6_allNeeds_13 : decode cX6_allNeeds 13 = .ok (.istore_n 3, 1) := by decide +kernel
theorem dX6_allNeeds_14 : decode cX6_allNeeds 14 = .ok (.iload_n 3, 1) := by decide +kernel
theorem dX6_allNeeds_15 : decode cX6_allNeeds 15 = .ok (.ifCond .lt 29, 3) := by decide +kernel
theorem dX6_allNeeds_18 : decode cX6_allNeeds 18 = .ok (.iload_n 2, 1) := by decide +kernel
theorem dX6_allNeeds_19 : decode cX6_allNeeds 19 = .ok (.iconst 1, 1) := by decide +kernel
theorem dX6_allNeeds_20 : decode cX6_allNeeds 20 = .ok (.iload_n 3, 1) := by decide +kernel
theorem dX6_allNeeds_21 : decode cX6_allNeeds 21 = .ok (.ishl, 1) := by decide +kernel
theorem dX6_allNeeds_22 : decode cX6_allNeeds 22 = .ok (.iand, 1) := by decide +kernel
theorem dX6_allNeeds_23 : decode cX6_allNeeds 23 = .ok (.ifCond .eq 15, 3) := by decide +kernel
theorem dX6_allNeeds_26 : decode cX6_allNeeds 26 = .ok (.iload_n 2, 1) := by decide +kernel
theorem dX6_allNeeds_27 : decode cX6_allNeeds 27 = .ok (.aload_n 0, 1) := by decide +kernel
theorem dX6_allNeeds_28 : decode cX6_allNeeds 28 = .ok (.getfield 17, 3) := by decide +kernel
theorem dX6_allNeeds_31 : decode cX6_allNeeds 31 = .ok (.iload_n 3, 1) := by decide +kernel
theorem dX6_allNeeds_32 : decode cX6_allNeeds 32 = .ok (.aaload, 1) := by decide +kernel
theorem dX6_allNeeds_33 : decode cX6_allNeeds 33 = .ok (.getfield 161, 3) := by decide +kernel
theorem dX6_allNeeds_36 : decode cX6_allNeeds 36 = .ok (.ior, 1) := by decide +kernel
theorem dX6_allNeeds_37 : decode cX6_allNeeds 37 = .ok (.istore_n 2, 1) := by decide +kernel
theorem dX6_allNeeds_38 : decode cX6_allNeeds 38 = .ok (.iinc 3 (-1), 3) := by decide +kernel
theorem dX6_allNeeds_41 : decode cX6_allNeeds 41 = .ok (.goto (-27), 3) := by decide +kernel
theorem dX6_allNeeds_44 : decode cX6_allNeeds 44 = .ok (.iload_n 2, 1) := by decide +kernel
theorem dX6_allNeeds_45 : decode cX6_allNeeds 45 = .ok (.ireturn, 1) := by decide +kernel
theorem dX6_needing_0 : decode cX6_needing 0 = .ok (.iconst 0, 1) := by decide +kernel
theorem dX6_needing_1 : decode cX6_needing 1 = .ok (.istore_n 2, 1) := by decide +kernel
theorem dX6_needing_2 : decode cX6_needing 2 = .ok (.iconst 0, 1) := by decide +kernel
theorem dX6_needing_3 : decode cX6_needing 3 = .ok (.istore_n 3, 1) := by decide +kernel
theorem dX6_needing_4 : decode cX6_needing 4 = .ok (.iload_n 3, 1) := by decide +kernel
theorem dX6_needing_5 : decode cX6_needing 5 = .ok (.aload_n 0, 1) := by decide +kernel
theorem dX6_needing_6 : decode cX6_needing 6 = .ok (.getfield 47, 3) := by decide +kernel
theorem dX6_needing_9 : decode cX6_needing 9 = .ok (.if_icmp .ge 24, 3) := by decide +kernel
theorem dX6_needing_12 : decode cX6_needing 12 = .ok (.aload_n 0, 1) := by decide +kernel
theorem dX6_needing_13 : decode cX6_needing 13 = .ok (.iload_n 3, 1) := by decide +kernel
theorem dX6_needing_14 : decode cX6_needing 14 = .ok (.invokevirtual 251, 3) := by decide +kernel
theorem dX6_needing_17 : decode cX6_needing 17 = .ok (.iconst 1, 1) := by decide +kernel
theorem dX6_needing_18 : decode cX6_needing 18 = .ok (.iload_n 1, 1) := by decide +kernel
theorem dX6_needing_19 : decode cX6_needing 19 = .ok (.ishl, 1) := by decide +kernel
theorem dX6_needing_20 : decode cX6_needing 20 = .ok (.iand, 1) := by decide +kernel
theorem dX6_needing_21 : decode cX6_needing 21 = .ok (.ifCond .eq 6, 3) := by decide +kernel
theorem dX6_needing_24 : decode cX6_needing 24 = .ok (.iinc 2 1, 3) := by decide +kernel
theorem dX6_needing_27 : decode cX6_needing 27 = .ok (.iinc 3 1, 3) := by decide +kernel
theorem dX6_needing_30 : decode cX6_needing 30 = .ok (.goto (-26), 3) := by decide +kernel
theorem dX6_needing_33 : decode cX6_needing 33 = .ok (.iload_n 2, 1) := by decide +kernel
theorem dX6_needing_34 : decode cX6_needing 34 = .ok (.ireturn, 1) := by decide +kernel
theorem dX7_init_0 : decode cX7_init 0 = .ok (.aload_n 0, 1) := by decide +kernel
theorem dX7_init_1 : decode cX7_init 1 = .ok (.invokespecial 3, 3) := by decide +kernel
theorem dX7_init_4 : decode cX7_init 4 = .ok (.aload_n 0, 1) := by decide +kernel
theorem dX7_init_5 : decode cX7_init 5 = .ok (.bipush 12, 2) := by decide +kernel
theorem dX7_init_7 : decode cX7_init 7 = .ok (.newarray .int, 2) := by decide +kernel
theorem dX7_init_9 : decode cX7_init 9 = .ok (.putfield 9, 3) := by decide +kernel
theorem dX7_init_12 : decode cX7_init 12 = .ok (.aload_n 0, 1) := by decide +kernel
theorem dX7_init_13 : decode cX7_init 13 = .ok (.bipush 12, 2) := by decide +kernel
theorem dX7_init_15 : decode cX7_init 15 = .ok (.newarray .int, 2) := by decide +kernel
theorem dX7_init_17 : decode cX7_init 17 = .ok (.putfield 15, 3) := by decide +kernel
theorem dX7_init_20 : decode cX7_init 20 = .ok (.aload_n 0, 1) := by decide +kernel
theorem dX7_init_21 : decode cX7_init 21 = .ok (.bipush 16, 2) := by decide +kernel
theorem dX7_init_23 : decode cX7_init 23 = .ok (.newarray .long, 2) := by decide +kernel
theorem dX7_init_25 : decode cX7_init 25 = .ok (.putfield 18, 3) := by decide +kernel
theorem dX7_init_28 : decode cX7_init 28 = .ok (.return_, 1) := by decide +kernel
theorem dX7_hearTray_0 : decode cX7_hearTray 0 = .ok (.iconst 0, 1) := by decide +kernel
theorem dX7_hearTray_1 : decode cX7_hearTray 1 = .ok (.istore_n 3, 1) := by decide +kernel
theorem dX7_hearTray_2 : decode cX7_hearTray 2 = .ok (.iload_n 3, 1) := by decide +kernel
theorem dX7_hearTray_3 : decode cX7_hearTray 3 = .ok (.iload_n 2, 1) := by decide +kernel
theorem dX7_hearTray_4 : decode cX7_hearTray 4 = .ok (.if_icmp .ge 44, 3) := by decide +kernel
theorem dX7_hearTray_7 : decode cX7_hearTray 7 = .ok (.aload_n 1, 1) := by decide +kernel
theorem dX7_hearTray_8 : decode cX7_hearTray 8 = .ok (.getfield 22, 3) := by decide +kernel
theorem dX7_hearTray_11 : decode cX7_hearTray 11 = .ok (.iload_n 3, 1) := by decide +kernel
theorem dX7_hearTray_12 : decode cX7_hearTray 12 = .ok (.laload, 1) := by decide +kernel
theorem dX7_hearTray_13 : decode cX7_hearTray 13 = .ok (.lstore 4, 2) := by decide +kernel
theorem dX7_hearTray_15 : decode cX7_hearTray 15 = .ok (.lload 4, 2) := by decide +kernel
theorem dX7_hearTray_17 : decode cX7_hearTray 17 = .ok (.lconst 1, 1) := by decide +kernel
theorem dX7_hearTray_18 : decode cX7_hearTray 18 = .ok (.lcmp, 1) := by decide +kernel
theorem dX7_hearTray_19 : decode cX7_hearTray 19 = .ok (.ifCond .lt 12, 3) := by decide +kernel
theorem dX7_hearTray_22 : decode cX7_hearTray 22 = .ok (.lload 4, 2) := by decide +kernel
theorem dX7_hearTray_24 : decode cX7_hearTray 24 = .ok (.ldc2_w 27, 3) := by decide +kernel
theorem dX7_hearTray_27 : decode cX7_hearTray 27 = .ok (.lcmp, 1) := by decide +kernel
theorem dX7_hearTray_28 : decode cX7_hearTray 28 = .ok (.ifCond .le 5, 3) := by decide +kernel
theorem dX7_hearTray_31 : decode cX7_hearTray 31 = .ok (.iconst 0, 1) := by decide +kernel
theorem dX7_hearTray_32 : decode cX7_hearTray 32 = .ok (.ireturn, 1) := by decide +kernel
theorem dX7_hearTray_33 : decode cX7_hearTray 33 = .ok (.aload_n 0, 1) := by decide +kernel
theorem dX7_hearTray_34 : decode cX7_hearTray 34 = .ok (.getfield 9, 3) := by decide +kernel
theorem dX7_hearTray_37 : decode cX7_hearTray 37 = .ok (.iload_n 3, 1) := by decide +kernel
theorem dX7_hearTray_38 : decode cX7_hearTray 38 = .ok (.lload 4, 2) := by decide +kernel
theorem dX7_hearTray_40 : decode cX7_hearTray 40 = .ok (.l2i, 1) := by decide +kernel
theorem dX7_hearTray_41 : decode cX7_hearTray 41 = .ok (.iastore, 1) := by decide +kernel
theorem dX7_hearTray_42 : decode cX7_hearTray 42 = .ok (.iinc 3 1, 3) := by decide +kernel
theorem dX7_hearTray_45 : decode cX7_hearTray 45 = .ok (.goto (-43), 3) := by decide +kernel
theorem dX7_hearTray_48 : decode cX7_hearTray 48 = .ok (.aload_n 0, 1) := by decide +kernel
theorem dX7_hearTray_49 : decode cX7_hearTray 49 = .ok (.iload_n 2, 1) := by decide +kernel
theorem dX7_hearTray_50 : decode cX7_hearTray 50 = .ok (.putfield 29, 3) := by decide +kernel
theorem dX7_hearTray_53 : decode cX7_hearTray 53 = .ok (.iconst 1, 1) := by decide +kernel
theorem dX7_hearTray_54 : decode cX7_hearTray 54 = .ok (.ireturn, 1) := by decide +kernel
theorem dX7_hearName_0 : decode cX7_hearName 0 = .ok (.iconst 0, 1) := by decide +kernel
theorem dX7_hearName_1 : decode cX7_hearName 1 = .ok (.istore_n 3, 1) := by decide +kernel
theorem dX7_hearName_2 : decode cX7_hearName 2 = .ok (.iload_n 3, 1) := by decide +kernel
theorem dX7_hearName_3 : decode cX7_hearName 3 = .ok (.aload_n 2, 1) := by decide +kernel
theorem dX7_hearName_4 : decode cX7_hearName 4 = .ok (.getfield 33, 3) := by decide +kernel
theorem dX7_hearName_7 : decode cX7_hearName 7 = .ok (.if_icmp .ge 21, 3) := by decide +kernel
theorem dX7_hearName_10 : decode cX7_hearName 10 = .ok (.aload_n 0, 1) := by decide +kernel
theorem dX7_hearName_11 : decode cX7_hearName 11 = .ok (.getfield 9, 3) := by decide +kernel
theorem dX7_hearName_14 : decode cX7_hearName 14 = .ok (.iload_n 3, 1) := by decide +kernel
theorem dX7_hearName_15 : decode cX7_hearName 15 = .ok (.aload_n 1, 1) := by decide +kernel
theorem dX7_hearName_16 : decode cX7_hearName 16 = .ok (.aload_n 2, 1) := by decide +kernel
theorem dX7_hearName_17 : decode cX7_hearName 17 = .ok (.iload_n 3, 1) := by decide +kernel
theorem dX7_hearName_18 : decode cX7_hearName 18 = .ok (.invokevirtual 36, 3) := by decide +kernel
theorem dX7_hearName_21 : decode cX7_hearName 21 = .ok (.iastore, 1) := by decide +kernel
theorem dX7_hearName_22 : decode cX7_hearName 22 = .ok (.iinc 3 1, 3) := by decide +kernel
theorem dX7_hearName_25 : decode cX7_hearName 25 = .ok (.goto (-23), 3) := by decide +kernel
theorem dX7_hearName_28 : decode cX7_hearName 28 = .ok (.aload_n 0, 1) := by decide +kernel
theorem dX7_hearName_29 : decode cX7_hearName 29 = .ok (.aload_n 2, 1) := by decide +kernel
theorem dX7_hearName_30 : decode cX7_hearName 30 = .ok (.getfield 33, 3) := by decide +kernel
theorem dX7_hearName_33 : decode cX7_hearName 33 = .ok (.putfield 29, 3) := by decide +kernel
theorem dX7_hearName_36 : decode cX7_hearName 36 = .ok (.return_, 1) := by decide +kernel
theorem dX7_hearAny_0 : decode cX7_hearAny 0 = .ok (.iconst 0, 1) := by decide +kernel
theorem dX7_hearAny_1 : decode cX7_hearAny 1 = .ok (.istore_n 2, 1) := by decide +kernel
theorem dX7_hearAny_2 : decode cX7_hearAny 2 = .ok (.iload_n 2, 1) := by decide +kernel
theorem dX7_hearAny_3 : decode cX7_hearAny 3 = .ok (.iload_n 1, 1) := by decide +kernel
theorem dX7_hearAny_4 : decode cX7_hearAny 4 = .ok (.if_icmp .ge 16, 3) := by decide +kernel
theorem dX7_hearAny_7 : decode cX7_hearAny 7 = .ok (.aload_n 0, 1) := by decide +kernel
theorem dX7_hearAny_8 : decode cX7_hearAny 8 = .ok (.getfield 9, 3) := by decide +kernel
theorem dX7_hearAny_11 : decode cX7_hearAny 11 = .ok (.iload_n 2, 1) := by decide +kernel
theorem dX7_hearAny_12 : decode cX7_hearAny 12 = .ok (.iconst 0, 1) := by decide +kernel
theorem dX7_hearAny_13 : decode cX7_hearAny 13 = .ok (.iastore, 1) := by decide +kernel
theorem dX7_hearAny_14 : decode cX7_hearAny 14 = .ok (.iinc 2 1, 3) := by decide +kernel
theorem dX7_hearAny_17 : decode cX7_hearAny 17 = .ok (.goto (-15), 3) := by decide +kernel
theorem dX7_hearAny_20 : decode cX7_hearAny 20 = .ok (.aload_n 0, 1) := by decide +kernel
theorem dX7_hearAny_21 : decode cX7_hearAny 21 = .ok (.iload_n 1, 1) := by decide +kernel
theorem dX7_hearAny_22 : decode cX7_hearAny 22 = .ok (.putfield 29, 3) := by decide +kernel
theorem dX7_hearAny_25 : decode cX7_hearAny 25 = .ok (.return_, 1) := by decide +kernel
theorem dX7_clearSums_0 : decode cX7_clearSums 0 = .ok (.aload_n 0, 1) := by decide +kernel
theorem dX7_clearSums_1 : decode cX7_clearSums 1 = .ok (.getfield 18, 3) := by decide +kernel
theorem dX7_clearSums_4 : decode cX7_clearSums 4 = .ok (.arraylength, 1) := by decide +kernel
theorem dX7_clearSums_5 : decode cX7_clearSums 5 = .ok (.iload_n 1, 1) := by decide +kernel
theorem dX7_clearSums_6 : decode cX7_clearSums 6 = .ok (.if_icmp .ge 10, 3) := by decide +kernel
theorem dX7_clearSums_9 : decode cX7_clearSums 9 = .ok (.aload_n 0, 1) := by decide +kernel
theorem dX7_clearSums_10 : decode cX7_clearSums 10 = .ok (.iload_n 1, 1) := by decide +kernel
theorem dX7_clearSums_11 : decode cX7_clearSums 11 = .ok (.newarray .long, 2) := by decide +kernel
theorem dX7_clearSums_13 : decode cX7_clearSums 13 = .ok (.putfield 18, 3) := by decide +kernel
theorem dX7_clearSums_16 : decode cX7_clearSums 16 = .ok (.iconst 0, 1) := by decide +kernel
theorem dX7_clearSums_17 : decode cX7_clearSums 17 = .ok (.istore 4, 2) := by decide +kernel
theorem dX7_clearSums_19 : decode cX7_clearSums 19 = .ok (.iload 4, 2) := by decide +kernel
theorem dX7_clearSums_21 : decode cX7_clearSums 21 = .ok (.iload_n 1, 1) := by decide +kernel
theorem dX7_clearSums_22 : decode cX7_clearSums 22 = .ok (.if_icmp .ge 17, 3) := by decide +kernel
theorem dX7_clearSums_25 : decode cX7_clearSums 25 = .ok (.aload_n 0, 1) := by decide +kernel
theorem dX7_clearSums_26 : decode cX7_clearSums 26 = .ok (.getfield 18, 3) := by decide +kernel
theorem dX7_clearSums_29 : decode cX7_clearSums 29 = .ok (.iload 4, 2) := by decide +kernel
theorem dX7_clearSums_31 : decode cX7_clearSums 31 = .ok (.lload_n 2, 1) := by decide +kernel
theorem dX7_clearSums_32 : decode cX7_clearSums 32 = .ok (.lastore, 1) := by decide +kernel
theorem dX7_clearSums_33 : decode cX7_clearSums 33 = .ok (.iinc 4 1, 3) := by decide +kernel
theorem dX7_clearSums_36 : decode cX7_clearSums 36 = .ok (.goto (-17), 3) := by decide +kernel
theorem dX7_clearSums_39 : decode cX7_clearSums 39 = .ok (.return_, 1) := by decide +kernel
theorem dX7_comesNext_0 : decode cX7_comesNext 0 = .ok (.iload_n 2, 1) := by decide +kernel
theorem dX7_comesNext_1 : decode cX7_comesNext 1 = .ok (.invokestatic 42, 3) := by decide +kernel
theorem dX7_comesNext_4 : decode cX7_comesNext 4 = .ok (.istore 4, 2) := by decide +kernel
theorem dX7_comesNext_6 : decode cX7_comesNext 6 = .ok (.iload 4, 2) := by decide +kernel
theorem dX7_comesNext_8 : decode cX7_comesNext 8 = .ok (.aload_n 0, 1) := by decide +kernel
theorem dX7_comesNext_9 : decode cX7_comesNext 9 = .ok (.getfield 29, 3) := by decide +kernel
theorem dX7_comesNext_12 : decode cX7_comesNext 12 = .ok (.if_icmp .ge 12, 3) := by decide +kernel
theorem dX7_comesNext_15 : decode cX7_comesNext 15 = .ok (.aload_n 1, 1) := by decide +kernel
theorem dX7_comesNext_16 : decode cX7_comesNext 16 = .ok (.iload_n 2, 1) := by decide +kernel
theorem dX7_comesNext_17 : decode cX7_comesNext 17 = .ok (.iload_n 3, 1) := by decide +kernel
theorem dX7_comesNext_18 : decode cX7_comesNext 18 = .ok (.invokevirtual 48, 3) := by decide +kernel
theorem dX7_comesNext_21 : decode cX7_comesNext 21 = .ok (.ifCond .ne 5, 3) := by decide +kernel
theorem dX7_comesNext_24 : decode cX7_comesNext 24 = .ok (.iconst 0, 1) := by decide +kernel
theorem dX7_comesNext_25 : decode cX7_comesNext 25 = .ok (.ireturn, 1) := by decide +kernel
theorem dX7_comesNext_26 : decode cX7_comesNext 26 = .ok (.aload_n 0, 1) := by decide +kernel
theorem dX7_comesNext_27 : decode cX7_comesNext 27 = .ok (.getfield 9, 3) := by decide +kernel
theorem dX7_comesNext_30 : decode cX7_comesNext 30 = .ok (.iload 4, 2) := by decide +kernel
theorem dX7_comesNext_32 : decode cX7_comesNext 32 = .ok (.iaload, 1) := by decide +kernel
theorem dX7_comesNext_33 : decode cX7_comesNext 33 = .ok (.ifCond .eq 22, 3) := by decide +kernel
theorem dX7_comesNext_36 : decode cX7_comesNext 36 = .ok (.aload_n 0, 1) := by decide +kernel
theorem dX7_comesNext_37 : decode cX7_comesNext 37 = .ok (.getfield 9, 3) := by decide +kernel
theorem dX7_comesNext_40 : decode cX7_comesNext 40 = .ok (.iload 4, 2) := by decide +kernel
theorem dX7_comesNext_42 : decode cX7_comesNext 42 = .ok (.iaload, 1) := by decide +kernel
theorem dX7_comesNext_43 : decode cX7_comesNext 43 = .ok (.aload_n 1, 1) := by decide +kernel
theorem dX7_comesNext_44 : decode cX7_comesNext 44 = .ok (.getfield 52, 3) := by decide +kernel
theorem dX7_comesNext_47 : decode cX7_comesNext 47 = .ok (.iload_n 3, 1) := by decide +kernel
theorem dX7_comesNext_48 : decode cX7_comesNext 48 = .ok (.aaload, 1) := by decide +kernel
theorem dX7_comesNext_49 : decode cX7_comesNext 49 = .ok (.getfield 56, 3) := by decide +kernel
theorem dX7_comesNext_52 : decode cX7_comesNext 52 = .ok (.if_icmp .ne 7, 3) := by decide +kernel
theorem dX7_comesNext_55 : decode cX7_comesNext 55 = .ok (.iconst 1, 1) := by decide +kernel
theorem dX7_comesNext_56 : decode cX7_comesNext 56 = .ok (.goto 4, 3) := by decide +kernel
theorem dX7_comesNext_59 : decode cX7_comesNext 59 = .ok (.iconst 0, 1) := by decide +kernel
theorem dX7_comesNext_60 : decode cX7_comesNext 60 = .ok (.ireturn, 1) := by decide +kernel
theorem dX7_count_0 : decode cX7_count 0 = .ok (.iconst 1, 1) := by decide +kernel
theorem dX7_count_1 : decode cX7_count 1 = .ok (.aload_n 1, 1) := by decide +kernel
theorem dX7_count_2 : decode cX7_count 2 = .ok (.getfield 61, 3) := by decide +kernel
theorem dX7_count_5 : decode cX7_count 5 = .ok (.ishl, 1) := by decide +kernel
theorem dX7_count_6 : decode cX7_count 6 = .ok (.istore_n 2, 1) := by decide +kernel
theorem dX7_count_7 : decode cX7_count 7 = .ok (.aload_n 0, 1) := by decide +kernel
theorem dX7_count_8 : decode cX7_count 8 = .ok (.iload_n 2, 1) := by decide +kernel
theorem dX7_count_9 : decode cX7_count 9 = .ok (.lconst 0, 1) := by decide +kernel
theorem dX7_count_10 : decode cX7_count 10 = .ok (.invokevirtual 64, 3) := by decide +kernel
theorem dX7_count_13 : decode cX7_count 13 = .ok (.aload_n 0, 1) := by decide +kernel
theorem dX7_count_14 : decode cX7_count 14 = .ok (.getfield 18, 3) := by decide +kernel
theorem dX7_count_17 : decode cX7_count 17 = .ok (.iconst 0, 1) := by decide +kernel
theorem dX7_count_18 : decode cX7_count 18 = .ok (.lconst 1, 1) := by decide +kernel
theorem dX7_count_19 : decode cX7_count 19 = .ok (.lastore, 1) := by decide +kernel
theorem dX7_count_20 : decode cX7_count 20 = .ok (.aload_n 0, 1) := by decide +kernel
theorem dX7_count_21 : decode cX7_count 21 = .ok (.iconst 0, 1) := by decide +kernel
theorem dX7_count_22 : decode cX7_count 22 = .ok (.putfield 68, 3) := by decide +kernel
theorem dX7_count_25 : decode cX7_count 25 = .ok (.lconst 0, 1) := by decide +kernel
theorem dX7_count_26 : decode cX7_count 26 = .ok (.lstore_n 3, 1) := by decide +kernel
theorem dX7_count_27 : decode cX7_count 27 = .ok (.iconst 0, 1) := by decide +kernel
theorem dX7_count_28 : decode cX7_count 28 = .ok (.istore 5, 2) := by decide +kernel
theorem dX7_count_30 : decode cX7_count 30 = .ok (.iload 5, 2) := by decide +kernel
theorem dX7_count_32 : decode cX7_count 32 = .ok (.iload_n 2, 1) := by decide +kernel
theorem dX7_count_33 : decode cX7_count 33 = .ok (.if_icmp .ge 115, 3) := by decide +kernel
theorem dX7_count_36 : decode cX7_count 36 = .ok (.aload_n 0, 1) := by decide +kernel
theorem dX7_count_37 : decode cX7_count 37 = .ok (.getfield 18, 3) := by decide +kernel
theorem dX7_count_40 : decode cX7_count 40 = .ok (.iload 5, 2) := by decide +kernel
theorem dX7_count_42 : decode cX7_count 42 = .ok (.laload, 1) := by decide +kernel
theorem dX7_count_43 : decode cX7_count 43 = .ok (.lconst 0, 1) := by decide +kernel
theorem dX7_count_44 : decode cX7_count 44 = .ok (.lcmp, 1) := by decide +kernel
theorem dX7_count_45 : decode cX7_count 45 = .ok (.ifCond .ne 6, 3) := by decide +kernel
theorem dX7_count_48 : decode cX7_count 48 = .ok (.goto 94, 3) := by decide +kernel
theorem dX7_count_51 : decode cX7_count 51 = .ok (.iload 5, 2) := by decide +kernel
theorem dX7_count_53 : decode cX7_count 53 = .ok (.invokestatic 42, 3) := by decide +kernel
theorem dX7_count_56 : decode cX7_count 56 = .ok (.istore 6, 2) := by decide +kernel
theorem dX7_count_58 : decode cX7_count 58 = .ok (.aload_n 0, 1) := by decide +kernel
theorem dX7_count_59 : decode cX7_count 59 = .ok (.aload_n 0, 1) := by decide +kernel
theorem dX7_count_60 : decode cX7_count 60 = .ok (.getfield 68, 3) := by decide +kernel
theorem dX7_count_63 : decode cX7_count 63 = .ok (.iload 6, 2) := by decide +kernel
theorem dX7_count_65 : decode cX7_count 65 = .ok (.invokestatic 71, 3) := by decide +kernel
theorem dX7_count_68 : decode cX7_count 68 = .ok (.putfield 68, 3) := by decide +kernel
theorem dX7_count_71 : decode cX7_count 71 = .ok (.iload 6, 2) := by decide +kernel
theorem dX7_count_73 : decode cX7_count 73 = .ok (.aload_n 0, 1) := by decide +kernel
theorem dX7_count_74 : decode cX7_count 74 = .ok (.getfield 29, 3) := by decide +kernel
theorem dX7_count_77 : decode cX7_count 77 = .ok (.if_icmp .ne 13, 3) := by decide +kernel
theorem dX7_count_80 : decode cX7_count 80 = .ok (.lload_n 3, 1) := by decide +kernel
theorem dX7_count_81 : decode cX7_count 81 = .ok (.aload_n 0, 1) := by decide +kernel
theorem dX7_count_82 : decode cX7_count 82 = .ok (.getfield 18, 3) := by decide +kernel
theorem dX7_count_85 : decode cX7_count 85 = .ok (.iload 5, 2) := by decide +kernel
theorem dX7_count_87 : decode cX7_count 87 = .ok (.laload, 1) := by decide +kernel
theorem dX7_count_88 : decode cX7_count 88 = .ok (.ladd, 1) := by decide +kernel
theorem dX7_count_89 : decode cX7_count 89 = .ok (.lstore_n 3, 1) := by decide +kernel
theorem dX7_count_90 : decode cX7_count 90 = .ok (.iconst 0, 1) := by decide +kernel
theorem dX7_count_91 : decode cX7_count 91 = .ok (.istore 7, 2) := by decide +kernel
theorem dX7_count_93 : decode cX7_count 93 = .ok (.iload 7, 2) := by decide +kernel
theorem dX7_count_95 : decode cX7_count 95 = .ok (.aload_n 1, 1) := by decide +kernel
theorem dX7_count_96 : decode cX7_count 96 = .ok (.getfield 61, 3) := by decide +kernel
theorem dX7_count_99 : decode cX7_count 99 = .ok (.if_icmp .ge 43, 3) := by decide +kernel
theorem dX7_count_102 : decode cX7_count 102 = .ok (.aload_n 0, 1) := by decide +kernel
theorem dX7_count_103 : decode cX7_count 103 = .ok (.aload_n 1, 1) := by decide +kernel
theorem dX7_count_104 : decode cX7_count 104 = .ok (.iload 5, 2) := by decide +kernel
theorem dX7_count_106 : decode cX7_count 106 = .ok (.iload 7, 2) := by decide +kernel
theorem dX7_count_108 : decode cX7_count 108 = .ok (.invokevirtual 77, 3) := by decide +kernel
theorem dX7_count_111 : decode cX7_count 111 = .ok (.ifCond .eq 25, 3) := by decide +kernel
theorem dX7_count_114 : decode cX7_count 114 = .ok (.aload_n 0, 1) := by decide +kernel
theorem dX7_count_115 : decode cX7_count 115 = .ok (.getfield 18, 3) := by decide +kernel
theorem dX7_count_118 : decode cX7_count 118 = .ok (.iload 5, 2) := by decide +kernel
theorem dX7_count_120 : decode cX7_count 120 = .ok (.iconst 1, 1) := by decide +kernel
theorem dX7_count_121 : decode cX7_count 121 = .ok (.iload 7, 2) := by decide +kernel
theorem dX7_count_123 : decode cX7_count 123 = .ok (.ishl, 1) := by decide +kernel
theorem dX7_count_124 : decode cX7_count 124 = .ok (.ior, 1) := by decide +kernel
theorem dX7_count_125 : decode cX7_count 125 = .ok (.dup2, 1) := by decide +kernel
theorem dX7_count_126 : decode cX7_count 126 = .ok (.laload, 1) := by decide +kernel
theorem dX7_count_127 : decode cX7_count 127 = .ok (.aload_n 0, 1) := by decide +kernel
theorem dX7_count_128 : decode cX7_count 128 = .ok (.getfield 18, 3) := by decide +kernel
theorem dX7_count_131 : decode cX7_count 131 = .ok (.iload 5, 2) := by decide +kernel
theorem dX7_count_133 : decode cX7_count 133 = .ok (.laload, 1) := by decide +kernel
theorem dX7_count_134 : decode cX7_count 134 = .ok (.ladd, 1) := by decide +kernel
theorem dX7_count_135 : decode cX7_count 135 = .ok (.lastore, 1) := by decide +kernel
theorem dX7_count_136 : decode cX7_count 136 = .ok (.iinc 7 1, 3) := by decide +kernel
theorem dX7_count_139 : decode cX7_count 139 = .ok (.goto (-46), 3) := by decide +kernel
theorem dX7_count_142 : decode cX7_count 142 = .ok (.iinc 5 1, 3) := by decide +kernel
theorem dX7_count_145 : decode cX7_count 145 = .ok (.goto (-115), 3) := by decide +kernel
theorem dX7_count_148 : decode cX7_count 148 = .ok (.lload_n 3, 1) := by decide +kernel
theorem dX7_count_149 : decode cX7_count 149 = .ok (.lreturn, 1) := by decide +kernel
theorem dX7_least_0 : decode cX7_least 0 = .ok (.iconst 1, 1) := by decide +kernel
theorem dX7_least_1 : decode cX7_least 1 = .ok (.aload_n 1, 1) := by decide +kernel
theorem dX7_least_2 : decode cX7_least 2 = .ok (.getfield 61, 3) := by decide +kernel
theorem dX7_least_5 : decode cX7_least 5 = .ok (.ishl, 1) := by decide +kernel
theorem dX7_least_6 : decode cX7_least 6 = .ok (.istore_n 3, 1) := by decide +kernel
theorem dX7_least_7 : decode cX7_least 7 = .ok (.aload_n 0, 1) := by decide +kernel
theorem dX7_least_8 : decode cX7_least 8 = .ok (.iload_n 3, 1) := by decide +kernel
theorem dX7_least_9 : decode cX7_least 9 = .ok (.ldc2_w 81, 3) := by decide +kernel
theorem dX7_least_12 : decode cX7_least 12 = .ok (.invokevirtual 64, 3) := by decide +kernel
theorem dX7_least_15 : decode cX7_least 15 = .ok (.aload_n 0, 1) := by decide +kernel
theorem dX7_least_16 : decode cX7_least 16 = .ok (.getfield 18, 3) := by decide +kernel
theorem dX7_least_19 : decode cX7_least 19 = .ok (.iconst 0, 1) := by decide +kernel
theorem dX7_least_20 : decode cX7_least 20 = .ok (.lconst 0, 1) := by decide +kernel
theorem dX7_least_21 : decode cX7_least 21 = .ok (.lastore, 1) := by decide +kernel
theorem dX7_least_22 : decode cX7_least 22 = .ok (.ldc2_w 81, 3) := by decide +kernel
theorem dX7_least_25 : decode cX7_least 25 = .ok (.lstore 4, 2) := by decide +kernel
theorem dX7_least_27 : decode cX7_least 27 = .ok (.iconst 0, 1) := by decide +kernel
theorem dX7_least_28 : decode cX7_least 28 = .ok (.istore 6, 2) := by decide +kernel
theorem dX7_least_30 : decode cX7_least 30 = .ok (.iload 6, 2) := by decide +kernel
theorem dX7_least_32 : decode cX7_least 32 = .ok (.iload_n 3, 1) := by decide +kernel
theorem dX7_least_33 : decode cX7_least 33 = .ok (.if_icmp .ge 150, 3) := by decide +kernel
theorem dX7_least_36 : decode cX7_least 36 = .ok (.aload_n 0, 1) := by decide +kernel
theorem dX7_least_37 : decode cX7_least 37 = .ok (.getfield 18, 3) := by decide +kernel
theorem dX7_least_40 : decode cX7_least 40 = .ok (.iload 6, 2) := by decide +kernel
theorem dX7_least_42 : decode cX7_least 42 = .ok (.laload, 1) := by decide +kernel
theorem dX7_least_43 : decode cX7_least 43 = .ok (.ldc2_w 81, 3) := by decide +kernel
theorem dX7_least_46 : decode cX7_least 46 = .ok (.lcmp, 1) := by decide +kernel
theorem dX7_least_47 : decode cX7_least 47 = .ok (.ifCond .ne 6, 3) := by decide +kernel
theorem dX7_least_50 : decode cX7_least 50 = .ok (.goto 127, 3) := by decide +kernel
theorem dX7_least_53 : decode cX7_least 53 = .ok (.iload 6, 2) := by decide +kernel
theorem dX7_least_55 : decode cX7_least 55 = .ok (.invokestatic 42, 3) := by decide +kernel
theorem dX7_least_58 : decode cX7_least 58 = .ok (.aload_n 0, 1) := by decide +kernel
theorem dX7_least_59 : decode cX7_least 59 = .ok (.getfield 29, 3) := by decide +kernel
theorem dX7_least_62 : decode cX7_least 62 = .ok (.if_icmp .ne 17, 3) := by decide +kernel
theorem dX7_least_65 : decode cX7_least 65 = .ok (.lload 4, 2) := by decide +kernel
theorem dX7_least_67 : decode cX7_least 67 = .ok (.aload_n 0, 1) := by decide +kernel
theorem dX7_least_68 : decode cX7_least 68 = .ok (.getfield 18, 3) := by decide +kernel
theorem dX7_least_71 : decode cX7_least 71 = .ok (.iload 6, 2) := by decide +kernel
theorem dX7_least_73 : decode cX7_least 73 = .ok (.laload, 1) := by decide +kernel
theorem dX7_least_74 : decode cX7_least 74 = .ok (.invokestatic 83, 3) := by decide +kernel
theorem dX7_least_77 : decode cX7_least 77 = .ok (.lstore 4, 2) := by decide +kernel
theorem dX7_least_79 : decode cX7_least 79 = .ok (.iconst 0, 1) := by decide +kernel
theorem dX7_least_80 : decode cX7_least 80 = .ok (.istore 7, 2) := by decide +kernel
theorem dX7_least_82 : decode cX7_least 82 = .ok (.iload 7, 2) := by decide +kernel
theorem dX7_least_84 : decode cX7_least 84 = .ok (.aload_n 1, 1) := by decide +kernel
theorem dX7_least_85 : decode cX7_least 85 = .ok (.getfield 61, 3) := by decide +kernel
theorem dX7_least_88 : decode cX7_least 88 = .ok (.if_icmp .ge 89, 3) := by decide +kernel
theorem dX7_least_91 : decode cX7_least 91 = .ok (.aload_n 0, 1) := by decide +kernel
theorem dX7_least_92 : decode cX7_least 92 = .ok (.aload_n 1, 1) := by decide +kernel
theorem dX7_least_93 : decode cX7_least 93 = .ok (.iload 6, 2) := by decide +kernel
theorem dX7_least_95 : decode cX7_least 95 = .ok (.iload 7, 2) := by decide +kernel
theorem dX7_least_97 : decode cX7_least 97 = .ok (.invokevirtual 77, 3) := by decide +kernel
theorem dX7_least_100 : decode cX7_least 100 = .ok (.ifCond .eq 71, 3) := by decide +kernel
theorem dX7_least_103 : decode cX7_least 103 = .ok (.iload_n 2, 1) := by decide +kernel
theorem dX7_least_104 : decode cX7_least 104 = .ok (.ifCond .eq 17, 3) := by decide +kernel
theorem dX7_least_107 : decode cX7_least 107 = .ok (.aload_n 1, 1) := by decide +kernel
theorem dX7_least_108 : decode cX7_least 108 = .ok (.getfield 52, 3) := by decide +kernel
theorem dX7_least_111 : decode cX7_least 111 = .ok (.iload 7, 2) := by decide +kernel
theorem dX7_least_113 : decode cX7_least 113 = .ok (.aaload, 1) := by decide +kernel
theorem dX7_least_114 : decode cX7_least 114 = .ok (.getfield 87, 3) := by decide +kernel
theorem dX7_least_117 : decode cX7_least 117 = .ok (.i2l, 1) := by decide +kernel
theorem dX7_least_118 : decode cX7_least 118 = .ok (.goto 14, 3) := by decide +kernel
theorem dX7_least_121 : decode cX7_least 121 = .ok (.aload_n 1, 1) := by decide +kernel
theorem dX7_least_122 : decode cX7_least 122 = .ok (.getfield 52, 3) := by decide +kernel
theorem dX7_least_125 : decode cX7_least 125 = .ok (.iload 7, 2) := by decide +kernel
theorem dX7_least_127 : decode cX7_least 127 = .ok (.aaload, 1) := by decide +kernel
theorem dX7_least_128 : decode cX7_least 128 = .ok (.getfield 90, 3) := by decide +kernel
theorem dX7_least_131 : decode cX7_least 131 = .ok (.i2l, 1) := by decide +kernel
theorem dX7_least_132 : decode cX7_least 132 = .ok (.lstore 8, 2) := by decide +kernel
theorem dX7_least_134 : decode cX7_least 134 = .ok (.aload_n 0, 1) := by decide +kernel
theorem dX7_least_135 : decode cX7_least 135 = .ok (.getfield 18, 3) := by decide +kernel
theorem dX7_least_138 : decode cX7_least 138 = .ok (.iload 6, 2) := by decide +kernel
theorem dX7_least_140 : decode cX7_least 140 = .ok (.iconst 1, 1) := by decide +kernel
theorem dX7_least_141 : decode cX7_least 141 = .ok (.iload 7, 2) := by decide +kernel
theorem dX7_least_143 : decode cX7_least 143 = .ok (.ishl, 1) := by decide +kernel
theorem dX7_least_144 : decode cX7_least 144 = .ok (.ior, 1) := by decide +kernel
theorem dX7_least_145 : decode cX7_least 145 = .ok (.aload_n 0, 1) := by decide +kernel
theorem dX7_least_146 : decode cX7_least 146 = .ok (.getfield 18, 3) := by decide +kernel
theorem dX7_least_149 : decode cX7_least 149 = .ok (.iload 6, 2) := by decide +kernel
theorem dX7_least_151 : decode cX7_least 151 = .ok (.iconst 1, 1) := by decide +kernel
theorem dX7_least_152 : decode cX7_least 152 = .ok (.iload 7, 2) := by decide +kernel
theorem dX7_least_154 : decode cX7_least 154 = .ok (.ishl, 1) := by decide +kernel
theorem dX7_least_155 : decode cX7_least 155 = .ok (.ior, 1) := by decide +kernel
theorem dX7_least_156 : decode cX7_least 156 = .ok (.laload, 1) := by decide +kernel
theorem dX7_least_157 : decode cX7_least 157 = .ok (.aload_n 0, 1) := by decide +kernel
theorem dX7_least_158 : decode cX7_least 158 = .ok (.getfield 18, 3) := by decide +kernel
theorem dX7_least_161 : decode cX7_least 161 = .ok (.iload 6, 2) := by decide +kernel
theorem dX7_least_163 : decode cX7_least 163 = .ok (.laload, 1) := by decide +kernel
theorem dX7_least_164 : decode cX7_least 164 = .ok (.lload 8, 2) := by decide +kernel
theorem dX7_least_166 : decode cX7_least 166 = .ok (.ladd, 1) := by decide +kernel
theorem dX7_least_167 : decode cX7_least 167 = .ok (.invokestatic 83, 3) := by decide +kernel
theorem dX7_least_170 : decode cX7_least 170 = .ok (.lastore, 1) := by decide +kernel
theorem dX7_least_171 : decode cX7_least 171 = .ok (.iinc 7 1, 3) := by decide +kernel
theorem dX7_least_174 : decode cX7_least 174 = .ok (.goto (-92), 3) := by decide +kernel
theorem dX7_least_177 : decode cX7_least 177 = .ok (.iinc 6 1, 3) := by decide +kernel
theorem dX7_least_180 : decode cX7_least 180 = .ok (.goto (-150), 3) := by decide +kernel
theorem dX7_least_183 : decode cX7_least 183 = .ok (.lload 4, 2) := by decide +kernel
theorem dX7_least_185 : decode cX7_least 185 = .ok (.l2i, 1) := by decide +kernel
theorem dX7_least_186 : decode cX7_least 186 = .ok (.ireturn, 1) := by decide +kernel
theorem dX7_lesser_0 : decode cX7_lesser 0 = .ok (.lload_n 0, 1) := by decide +kernel
theorem dX7_lesser_1 : decode cX7_lesser 1 = .ok (.ldc2_w 81, 3) := by decide +kernel
theorem dX7_lesser_4 : decode cX7_lesser 4 = .ok (.lcmp, 1) := by decide +kernel
theorem dX7_lesser_5 : decode cX7_lesser 5 = .ok (.ifCond .ne 7, 3) := by decide +kernel
theorem dX7_lesser_8 : decode cX7_lesser 8 = .ok (.lload_n 2, 1) := by decide +kernel
theorem dX7_lesser_9 : decode cX7_lesser 9 = .ok (.goto 8, 3) := by decide +kernel
theorem dX7_lesser_12 : decode cX7_lesser 12 = .ok (.lload_n 0, 1) := by decide +kernel
theorem dX7_lesser_13 : decode cX7_lesser 13 = .ok (.lload_n 2, 1) := by decide +kernel
theorem dX7_lesser_14 : decode cX7_lesser 14 = .ok (.invokestatic 93, 3) := by decide +kernel
theorem dX7_lesser_17 : decode cX7_lesser 17 = .ok (.lreturn, 1) := by decide +kernel
theorem dX7_findFirst_0 : decode cX7_findFirst 0 = .ok (.iconst 1, 1) := by decide +kernel
theorem dX7_findFirst_1 : decode cX7_findFirst 1 = .ok (.aload_n 1, 1) := by decide +kernel
theorem dX7_findFirst_2 : decode cX7_findFirst 2 = .ok (.getfield 61, 3) := by decide +kernel
theorem dX7_findFirst_5 : decode cX7_findFirst 5 = .ok (.ishl, 1) := by decide +kernel
theorem dX7_findFirst_6 : decode cX7_findFirst 6 = .ok (.istore_n 2, 1) := by decide +kernel
theorem dX7_findFirst_7 : decode cX7_findFirst 7 = .ok (.aload_n 0, 1) := by decide +kernel
theorem dX7_findFirst_8 : decode cX7_findFirst 8 = .ok (.iload_n 2, 1) := by decide +kernel
theorem dX7_findFirst_9 : decode cX7_findFirst 9 = .ok (.lconst 0, 1) := by decide +kernel
theorem dX7_findFirst_10 : decode cX7_findFirst 10 = .ok (.invokevirtual 64, 3) := by decide +kernel
theorem dX7_findFirst_13 : decode cX7_findFirst 13 = .ok (.iload_n 2, 1) := by decide +kernel
theorem dX7_findFirst_14 : decode cX7_findFirst 14 = .ok (.iconst 1, 1) := by decide +kernel
theorem dX7_findFirst_15 : decode cX7_findFirst 15 = .ok (.isub, 1) := by decide +kernel
theorem dX7_findFirst_16 : decode cX7_findFirst 16 = .ok (.istore_n 3, 1) := by decide +kernel
theorem dX7_findFirst_17 : decode cX7_findFirst 17 = .ok (.iload_n 3, 1) := by decide +kernel
theorem dX7_findFirst_18 : decode cX7_findFirst 18 = .ok (.ifCond .lt 53, 3) := by decide +kernel
theorem dX7_findFirst_21 : decode cX7_findFirst 21 = .ok (.iload_n 3, 1) := by decide +kernel
theorem dX7_findFirst_22 : decode cX7_findFirst 22 = .ok (.invokestatic 42, 3) := by decide +kernel
theorem dX7_findFirst_25 : decode cX7_findFirst 25 = .ok (.aload_n 0, 1) := by decide +kernel
theorem dX7_findFirst_26 : decode cX7_findFirst 26 = .ok (.getfield 29, 3) := by decide +kernel
theorem dX7_findFirst_29 : decode cX7_findFirst 29 = .ok (.if_icmp .eq 13, 3) := by decide +kernel
theorem dX7_findFirst_32 : decode cX7_findFirst 32 = .ok (.aload_n 0, 1) := by decide +kernel
theorem dX7_findFirst_33 : decode cX7_findFirst 33 = .ok (.aload_n 1, 1) := by decide +kernel
theorem dX7_findFirst_34 : decode cX7_findFirst 34 = .ok (.iload_n 3, 1) := by decide +kernel
theorem dX7_findFirst_35 : decode cX7_findFirst 35 = .ok (.invokevirtual 96, 3) := by decide +kernel
theorem dX7_findFirst_38 : decode cX7_findFirst 38 = .ok (.iconst (-1), 1) := by decide +kernel
theorem dX7_findFirst_39 : decode cX7_findFirst 39 = .ok (.if_icmp .eq 7, 3) := by decide +kernel
theorem dX7_findFirst_42 : decode cX7_findFirst 42 = .ok (.iconst 1, 1) := by decide +kernel
theorem dX7_findFirst_43 : decode cX7_findFirst 43 = .ok (.goto 4, 3) := by decide +kernel
theorem dX7_findFirst_46 : decode cX7_findFirst 46 = .ok (.iconst 0, 1) := by decide +kernel
theorem dX7_findFirst_47 : decode cX7_findFirst 47 = .ok (.istore 4, 2) := by decide +kernel
theorem dX7_findFirst_49 : decode cX7_findFirst 49 = .ok (.aload_n 0, 1) := by decide +kernel
theorem dX7_findFirst_50 : decode cX7_findFirst 50 = .ok (.getfield 18, 3) := by decide +kernel
theorem dX7_findFirst_53 : decode cX7_findFirst 53 = .ok (.iload_n 3, 1) := by decide +kernel
theorem dX7_findFirst_54 : decode cX7_findFirst 54 = .ok (.iload 4, 2) := by decide +kernel
theorem dX7_findFirst_56 : decode cX7_findFirst 56 = .ok (.ifCond .eq 7, 3) := by decide +kernel
theorem dX7_findFirst_59 : decode cX7_findFirst 59 = .ok (.lconst 1, 1) := by decide +kernel
theorem dX7_findFirst_60 : decode cX7_findFirst 60 = .ok (.goto 4, 3) := by decide +kernel
theorem dX7_findFirst_63 : decode cX7_findFirst 63 = .ok (.lconst 0, 1) := by decide +kernel
theorem dX7_findFirst_64 : decode cX7_findFirst 64 = .ok (.lastore, 1) := by decide +kernel
theorem dX7_findFirst_65 : decode cX7_findFirst 65 = .ok (.iinc 3 (-1), 3) := by decide +kernel
theorem dX7_findFirst_68 : decode cX7_findFirst 68 = .ok (.goto (-51), 3) := by decide +kernel
theorem dX7_findFirst_71 : decode cX7_findFirst 71 = .ok (.aload_n 0, 1) := by decide +kernel
theorem dX7_findFirst_72 : decode cX7_findFirst 72 = .ok (.getfield 18, 3) := by decide +kernel
theorem dX7_findFirst_75 : decode cX7_findFirst 75 = .ok (.iconst 0, 1) := by decide +kernel
theorem dX7_findFirst_76 : decode cX7_findFirst 76 = .ok (.laload, 1) := by decide +kernel
theorem dX7_findFirst_77 : decode cX7_findFirst 77 = .ok (.lconst 0, 1) := by decide +kernel
theorem dX7_findFirst_78 : decode cX7_findFirst 78 = .ok (.lcmp, 1) := by decide +kernel
theorem dX7_findFirst_79 : decode cX7_findFirst 79 = .ok (.ifCond .ne 5, 3) := by decide +kernel
theorem dX7_findFirst_82 : decode cX7_findFirst 82 = .ok (.iconst 0, 1) := by decide +kernel
theorem dX7_findFirst_83 : decode cX7_findFirst 83 = .ok (.ireturn, 1) := by decide +kernel
theorem dX7_findFirst_84 : decode cX7_findFirst 84 = .ok (.iconst 0, 1) := by decide +kernel
theorem dX7_findFirst_85 : decode cX7_findFirst 85 = .ok (.istore_n 3, 1) := by decide +kernel
theorem dX7_findFirst_86 : decode cX7_findFirst 86 = .ok (.iconst 0, 1) := by decide +kernel
theorem dX7_findFirst_87 : decode cX7_findFirst 87 = .ok (.istore 4, 2) := by decide +kernel
theorem dX7_findFirst_89 : decode cX7_findFirst 89 = .ok (.iload 4, 2) := by decide +kernel
theorem dX7_findFirst_91 : decode cX7_findFirst 91 = .ok (.aload_n 0, 1) := by decide +kernel
theorem dX7_findFirst_92 : decode cX7_findFirst 92 = .ok (.getfield 29, 3) := by decide +kernel
theorem dX7_findFirst_95 : decode cX7_findFirst 95 = .ok (.if_icmp .ge 34, 3) := by decide +kernel
theorem dX7_findFirst_98 : decode cX7_findFirst 98 = .ok (.aload_n 0, 1) := by decide +kernel
theorem dX7_findFirst_99 : decode cX7_findFirst 99 = .ok (.getfield 15, 3) := by decide +kernel
theorem dX7_findFirst_102 : decode cX7_findFirst 102 = .ok (.iload 4, 2) := by decide +kernel
theorem dX7_findFirst_104 : decode cX7_findFirst 104 = .ok (.aload_n 0, 1) := by decide +kernel
theorem dX7_findFirst_105 : decode cX7_findFirst 105 = .ok (.aload_n 1, 1) := by decide +kernel
theorem dX7_findFirst_106 : decode cX7_findFirst 106 = .ok (.iload_n 3, 1) := by decide +kernel
theorem dX7_findFirst_107 : decode cX7_findFirst 107 = .ok (.invokevirtual 96, 3) := by decide +kernel
theorem dX7_findFirst_110 : decode cX7_findFirst 110 = .ok (.iastore, 1) := by decide +kernel
theorem dX7_findFirst_111 : decode cX7_findFirst 111 = .ok (.iload_n 3, 1) := by decide +kernel
theorem dX7_findFirst_112 : decode cX7_findFirst 112 = .ok (.iconst 1, 1) := by decide +kernel
theorem dX7_findFirst_113 : decode cX7_findFirst 113 = .ok (.aload_n 0, 1) := by decide +kernel
theorem dX7_findFirst_114 : decode cX7_findFirst 114 = .ok (.getfield 15, 3) := by decide +kernel
theorem dX7_findFirst_117 : decode cX7_findFirst 117 = .ok (.iload 4, 2) := by decide +kernel
theorem dX7_findFirst_119 : decode cX7_findFirst 119 = .ok (.iaload, 1) := by decide +kernel
theorem dX7_findFirst_120 : decode cX7_findFirst 120 = .ok (.ishl, 1) := by decide +kernel
theorem dX7_findFirst_121 : decode cX7_findFirst 121 = .ok (.ior, 1) := by decide +kernel
theorem dX7_findFirst_122 : decode cX7_findFirst 122 = .ok (.istore_n 3, 1) := by decide +kernel
theorem dX7_findFirst_123 : decode cX7_findFirst 123 = .ok (.iinc 4 1, 3) := by decide +kernel
theorem dX7_findFirst_126 : decode cX7_findFirst 126 = .ok (.goto (-37), 3) := by decide +kernel
theorem dX7_findFirst_129 : decode cX7_findFirst 129 = .ok (.aload_n 0, 1) := by decide +kernel
theorem dX7_findFirst_130 : decode cX7_findFirst 130 = .ok (.aload_n 0, 1) := by decide +kernel
theorem dX7_findFirst_131 : decode cX7_findFirst 131 = .ok (.getfield 29, 3) := by decide +kernel
theorem dX7_findFirst_134 : decode cX7_findFirst 134 = .ok (.putfield 100, 3) := by decide +kernel
theorem dX7_findFirst_137 : decode cX7_findFirst 137 = .ok (.iconst 1, 1) := by decide +kernel
theorem dX7_findFirst_138 : decode cX7_findFirst 138 = .ok (.ireturn, 1) := by decide +kernel
theorem dX7_goingOn_0 : decode cX7_goingOn 0 = .ok (.iconst 0, 1) := by decide +kernel
theorem dX7_goingOn_1 : decode cX7_goingOn 1 = .ok (.istore_n 3, 1) := by decide +kernel
theorem dX7_goingOn_2 : decode cX7_goingOn 2 = .ok (.iload_n 3, 1) := by decide +kernel
theorem dX7_goingOn_3 : decode cX7_goingOn 3 = .ok (.aload_n 1, 1) := by decide +kernel
theorem dX7_goingOn_4 : decode cX7_goingOn 4 = .ok (.getfield 61, 3) := by decide +kernel
theorem dX7_goingOn_7 : decode cX7_goingOn 7 = .ok (.if_icmp .ge 36, 3) := by decide +kernel
theorem dX7_goingOn_10 : decode cX7_goingOn 10 = .ok (.aload_n 0, 1) := by decide +kernel
theorem dX7_goingOn_11 : decode cX7_goingOn 11 = .ok (.aload_n 1, 1) := by decide +kernel
theorem dX7_goingOn_12 : decode cX7_goingOn 12 = .ok (.iload_n 2, 1) := by decide +kernel
theorem dX7_goingOn_13 : decode cX7_goingOn 13 = .ok (.iload_n 3, 1) := by decide +kernel
theorem dX7_goingOn_14 : decode cX7_goingOn 14 = .ok (.invokevirtual 77, 3) := by decide +kernel
theorem dX7_goingOn_17 : decode cX7_goingOn 17 = .ok (.ifCond .eq 20, 3) := by decide +kernel
theorem dX7_goingOn_20 : decode cX7_goingOn 20 = .ok (.aload_n 0, 1) := by decide +kernel
theorem dX7_goingOn_21 : decode cX7_goingOn 21 = .ok (.getfield 18, 3) := by decide +kernel
theorem dX7_goingOn_24 : decode cX7_goingOn 24 = .ok (.iload_n 2, 1) := by decide +kernel
theorem dX7_goingOn_25 : decode cX7_goingOn 25 = .ok (.iconst 1, 1) := by decide +kernel
theorem dX7_goingOn_26 : decode cX7_goingOn 26 = .ok (.iload_n 3, 1) := by decide +kernel
theorem dX7_goingOn_27 : decode cX7_goingOn 27 = .ok (.ishl, 1) := by decide +kernel
theorem dX7_goingOn_28 : decode cX7_goingOn 28 = .ok (.ior, 1) := by decide +kernel
theorem dX7_goingOn_29 : decode cX7_goingOn 29 = .ok (.laload, 1) := by decide +kernel
theorem dX7_goingOn_30 : decode cX7_goingOn 30 = .ok (.lconst 0, 1) := by decide +kernel
theorem dX7_goingOn_31 : decode cX7_goingOn 31 = .ok (.lcmp, 1) := by decide +kernel
theorem dX7_goingOn_32 : decode cX7_goingOn 32 = .ok (.ifCond .eq 5, 3) := by decide +kernel
theorem dX7_goingOn_35 : decode cX7_goingOn 35 = .ok (.iload_n 3, 1) := by decide +kernel
theorem dX7_goingOn_36 : decode cX7_goingOn 36 = .ok (.ireturn, 1) := by decide +kernel
theorem dX7_goingOn_37 : decode cX7_goingOn 37 = .ok (.iinc 3 1, 3) := by decide +kernel
theorem dX7_goingOn_40 : decode cX7_goingOn 40 = .ok (.goto (-38), 3) := by decide +kernel
theorem dX7_goingOn_43 : decode cX7_goingOn 43 = .ok (.iconst (-1), 1) := by decide +kernel
theorem dX7_goingOn_44 : decode cX7_goingOn 44 = .ok (.ireturn, 1) := by decide +kernel
theorem dX7_countSaid_0 : decode cX7_countSaid 0 = .ok (.aload_n 1, 1) := by decide +kernel
theorem dX7_countSaid_1 : decode cX7_countSaid 1 = .ok (.getfield 103, 3) := by decide +kernel
theorem dX7_countSaid_4 : decode cX7_countSaid 4 = .ok (.aload_n 0, 1) := by decide +kernel
theorem dX7_countSaid_5 : decode cX7_countSaid 5 = .ok (.getfield 29, 3) := by decide +kernel
theorem dX7_countSaid_8 : decode cX7_countSaid 8 = .ok (.invokestatic 106, 3) := by decide +kernel
theorem dX7_countSaid_11 : decode cX7_countSaid 11 = .ok (.istore_n 2, 1) := by decide +kernel
theorem dX7_countSaid_12 : decode cX7_countSaid 12 = .ok (.iconst 2, 1) := by decide +kernel
theorem dX7_countSaid_13 : decode cX7_countSaid 13 = .ok (.iload_n 2, 1) := by decide +kernel
theorem dX7_countSaid_14 : decode cX7_countSaid 14 = .ok (.imul, 1) := by decide +kernel
theorem dX7_countSaid_15 : decode cX7_countSaid 15 = .ok (.istore_n 3, 1) := by decide +kernel
theorem dX7_countSaid_16 : decode cX7_countSaid 16 = .ok (.iconst 1, 1) := by decide +kernel
theorem dX7_countSaid_17 : decode cX7_countSaid 17 = .ok (.aload_n 1, 1) := by decide +kernel
theorem dX7_countSaid_18 : decode cX7_countSaid 18 = .ok (.getfield 61, 3) := by decide +kernel
theorem dX7_countSaid_21 : decode cX7_countSaid 21 = .ok (.ishl, 1) := by decide +kernel
theorem dX7_countSaid_22 : decode cX7_countSaid 22 = .ok (.istore 4, 2) := by decide +kernel
theorem dX7_countSaid_24 : decode cX7_countSaid 24 = .ok (.aload_n 0, 1) := by decide +kernel
theorem dX7_countSaid_25 : decode cX7_countSaid 25 = .ok (.iload 4, 2) := by decide +kernel
theorem dX7_countSaid_27 : decode cX7_countSaid 27 = .ok (.iload_n 3, 1) := by decide +kernel
theorem dX7_countSaid_28 : decode cX7_countSaid 28 = .ok (.imul, 1) := by decide +kernel
theorem dX7_countSaid_29 : decode cX7_countSaid 29 = .ok (.lconst 0, 1) := by decide +kernel
theorem dX7_countSaid_30 : decode cX7_countSaid 30 = .ok (.invokevirtual 64, 3) := by decide +kernel
theorem dX7_countSaid_33 : decode cX7_countSaid 33 = .ok (.lconst 0, 1) := by decide +kernel
theorem dX7_countSaid_34 : decode cX7_countSaid 34 = .ok (.lstore 5, 2) := by decide +kernel
theorem dX7_countSaid_36 : decode cX7_countSaid 36 = .ok (.iconst 0, 1) := by decide +kernel
theorem dX7_countSaid_37 : decode cX7_countSaid 37 = .ok (.istore 7, 2) := by decide +kernel
theorem dX7_countSaid_39 : decode cX7_countSaid 39 = .ok (.iload 7, 2) := by decide +kernel
theorem dX7_countSaid_41 : decode cX7_countSaid 41 = .ok (.iload 4, 2) := by decide +kernel
theorem dX7_countSaid_43 : decode cX7_countSaid 43 = .ok (.if_icmp .ge 115, 3) := by decide +kernel
theorem dX7_countSaid_46 : decode cX7_countSaid 46 = .ok (.iconst 0, 1) := by decide +kernel
theorem dX7_countSaid_47 : decode cX7_countSaid 47 = .ok (.istore 8, 2) := by decide +kernel
theorem dX7_countSaid_49 : decode cX7_countSaid 49 = .ok (.iload 8, 2) := by decide +kernel
theorem dX7_countSaid_51 : decode cX7_countSaid 51 = .ok (.iload_n 3, 1) := by decide +kernel
theorem dX7_countSaid_52 : decode cX7_countSaid 52 = .ok (.if_icmp .ge 38, 3) := by decide +kernel
theorem dX7_countSaid_55 : decode cX7_countSaid 55 = .ok (.iload 7, 2) := by decide +kernel
theorem dX7_countSaid_57 : decode cX7_countSaid 57 = .ok (.invokestatic 42, 3) := by decide +kernel
theorem dX7_countSaid_60 : decode cX7_countSaid 60 = .ok (.aload_n 0, 1) := by decide +kernel
theorem dX7_countSaid_61 : decode cX7_countSaid 61 = .ok (.getfield 29, 3) := by decide +kernel
theorem dX7_countSaid_64 : decode cX7_countSaid 64 = .ok (.if_icmp .ne 26, 3) := by decide +kernel
theorem dX7_countSaid_67 : decode cX7_countSaid 67 = .ok (.lload 5, 2) := by decide +kernel
theorem dX7_countSaid_69 : decode cX7_countSaid 69 = .ok (.aload_n 0, 1) := by decide +kernel
theorem dX7_countSaid_70 : decode cX7_countSaid 70 = .ok (.getfield 18, 3) := by decide +kernel
theorem dX7_countSaid_73 : decode cX7_countSaid 73 = .ok (.iload 7, 2) := by decide +kernel
theorem dX7_countSaid_75 : decode cX7_countSaid 75 = .ok (.iload_n 3, 1) := by decide +kernel
theorem dX7_countSaid_76 : decode cX7_countSaid 76 = .ok (.imul, 1) := by decide +kernel
theorem dX7_countSaid_77 : decode cX7_countSaid 77 = .ok (.iload 8, 2) := by decide +kernel
theorem dX7_countSaid_79 : decode cX7_countSaid 79 = .ok (.iadd, 1) := by decide +kernel
theorem dX7_countSaid_80 : decode cX7_countSaid 80 = .ok (.laload, 1) := by decide +kernel
theorem dX7_countSaid_81 : decode cX7_countSaid 81 = .ok (.ladd, 1) := by decide +kernel
theorem dX7_countSaid_82 : decode cX7_countSaid 82 = .ok (.lstore 5, 2) := by decide +kernel
theorem dX7_countSaid_84 : decode cX7_countSaid 84 = .ok (.iinc 8 1, 3) := by decide +kernel
theorem dX7_countSaid_87 : decode cX7_countSaid 87 = .ok (.goto (-38), 3) := by decide +kernel
theorem dX7_countSaid_90 : decode cX7_countSaid 90 = .ok (.iconst 0, 1) := by decide +kernel
theorem dX7_countSaid_91 : decode cX7_countSaid 91 = .ok (.istore 8, 2) := by decide +kernel
theorem dX7_countSaid_93 : decode cX7_countSaid 93 = .ok (.iload 8, 2) := by decide +kernel
theorem dX7_countSaid_95 : decode cX7_countSaid 95 = .ok (.aload_n 1, 1) := by decide +kernel
theorem dX7_countSaid_96 : decode cX7_countSaid 96 = .ok (.getfield 61, 3) := by decide +kernel
theorem dX7_countSaid_99 : decode cX7_countSaid 99 = .ok (.if_icmp .ge 53, 3) := by decide +kernel
theorem dX7_countSaid_102 : decode cX7_countSaid 102 = .ok (.aload_n 0, 1) := by decide +kernel
theorem dX7_countSaid_103 : decode cX7_countSaid 103 = .ok (.aload_n 1, 1) := by decide +kernel
theorem dX7_countSaid_104 : decode cX7_countSaid 104 = .ok (.iload 7, 2) := by decide +kernel
theorem dX7_countSaid_106 : decode cX7_countSaid 106 = .ok (.iload 8, 2) := by decide +kernel
theorem dX7_countSaid_108 : decode cX7_countSaid 108 = .ok (.invokevirtual 77, 3) := by decide +kernel
theorem dX7_countSaid_111 : decode cX7_countSaid 111 = .ok (.ifCond .eq 35, 3) := by decide +kernel
theorem dX7_countSaid_114 : decode cX7_countSaid 114 = .ok (.aload_n 0, 1) := by decide +kernel
theorem dX7_countSaid_115 : decode cX7_countSaid 115 = .ok (.iload 7, 2) := by decide +kernel
theorem dX7_countSaid_117 : decode cX7_countSaid 117 = .ok (.iload 7, 2) := by decide +kernel
theorem dX7_countSaid_119 : decode cX7_countSaid 119 = .ok (.iconst 1, 1) := by decide +kernel
theorem dX7_countSaid_120 : decode cX7_countSaid 120 = .ok (.iload 8, 2) := by decide +kernel
theorem dX7_countSaid_122 : decode cX7_countSaid 122 = .ok (.ishl, 1) := by decide +kernel
theorem dX7_countSaid_123 : decode cX7_countSaid 123 = .ok (.ior, 1) := by decide +kernel
theorem dX7_countSaid_124 : decode cX7_countSaid 124 = .ok (.aload_n 1, 1) := by decide +kernel
theorem dX7_countSaid_125 : decode cX7_countSaid 125 = .ok (.getfield 52, 3) := by decide +kernel
theorem dX7_countSaid_128 : decode cX7_countSaid 128 = .ok (.iload 8, 2) := by decide +kernel
theorem dX7_countSaid_130 : decode cX7_countSaid 130 = .ok (.aaload, 1) := by decide +kernel
theorem dX7_countSaid_131 : decode cX7_countSaid 131 = .ok (.getfield 108, 3) := by decide +kernel
theorem dX7_countSaid_134 : decode cX7_countSaid 134 = .ok (.ifCond .eq 7, 3) := by decide +kernel
theorem dX7_countSaid_137 : decode cX7_countSaid 137 = .ok (.iload_n 2, 1) := by decide +kernel
theorem dX7_countSaid_138 : decode cX7_countSaid 138 = .ok (.goto 4, 3) := by decide +kernel
theorem dX7_countSaid_141 : decode cX7_countSaid 141 = .ok (.iconst 0, 1) := by decide +kernel
theorem dX7_countSaid_142 : decode cX7_countSaid 142 = .ok (.iload_n 2, 1) := by decide +kernel
theorem dX7_countSaid_143 : decode cX7_countSaid 143 = .ok (.invokevirtual 112, 3) := by decide +kernel
theorem dX7_countSaid_146 : decode cX7_countSaid 146 = .ok (.iinc 8 1, 3) := by decide +kernel
theorem dX7_countSaid_149 : decode cX7_countSaid 149 = .ok (.goto (-56), 3) := by decide +kernel
theorem dX7_countSaid_152 : decode cX7_countSaid 152 = .ok (.iinc 7 1, 3) := by decide +kernel
theorem dX7_countSaid_155 : decode cX7_countSaid 155 = .ok (.goto (-116), 3) := by decide +kernel
theorem dX7_countSaid_158 : decode cX7_countSaid 158 = .ok (.lload 5, 2) := by decide +kernel
theorem dX7_countSaid_160 : decode cX7_countSaid 160 = .ok (.lreturn, 1) := by decide +kernel
theorem dX7_saySo_0 : decode cX7_saySo 0 = .ok (.iload_n 1, 1) := by decide +kernel
theorem dX7_saySo_1 : decode cX7_saySo 1 = .ok (.ifCond .ne 18, 3) := by decide +kernel
theorem dX7_saySo_4 : decode cX7_saySo 4 = .ok (.aload_n 0, 1) := by decide +kernel
theorem dX7_saySo_5 : decode cX7_saySo 5 = .ok (.getfield 18, 3) := by decide +kernel
theorem dX7_saySo_8 : decode cX7_saySo 8 = .ok (.iload_n 2, 1) := by decide +kernel
theorem dX7_saySo_9 : decode cX7_saySo 9 = .ok (.iconst 2, 1) := by decide +kernel
theorem dX7_saySo_10 : decode cX7_saySo 10 = .ok (.imul, 1) := by decide +kernel
theorem dX7_saySo_11 : decode cX7_saySo 11 = .ok (.iload 4, 2) := by decide +kernel
theorem dX7_saySo_13 : decode cX7_saySo 13 = .ok (.imul, 1) := by decide +kernel
theorem dX7_saySo_14 : decode cX7_saySo 14 = .ok (.iload_n 3, 1) := by decide +kernel
theorem dX7_saySo_15 : decode cX7_saySo 15 = .ok (.iadd, 1) := by decide +kernel
theorem dX7_saySo_16 : decode cX7_saySo 16 = .ok (.lconst 1, 1) := by decide +kernel
theorem dX7_saySo_17 : decode cX7_saySo 17 = .ok (.lastore, 1) := by decide +kernel
theorem dX7_saySo_18 : decode cX7_saySo 18 = .ok (.return_, 1) := by decide +kernel
theorem dX7_saySo_19 : decode cX7_saySo 19 = .ok (.iconst 0, 1) := by decide +kernel
theorem dX7_saySo_20 : decode cX7_saySo 20 = .ok (.istore 5, 2) := by decide +kernel
theorem dX7_saySo_22 : decode cX7_saySo 22 = .ok (.iload 5, 2) := by decide +kernel
theorem dX7_saySo_24 : decode cX7_saySo 24 = .ok (.iconst 2, 1) := by decide +kernel
theorem dX7_saySo_25 : decode cX7_saySo 25 = .ok (.iload 4, 2) := by decide +kernel
theorem dX7_saySo_27 : decode cX7_saySo 27 = .ok (.imul, 1) := by decide +kernel
theorem dX7_saySo_28 : decode cX7_saySo 28 = .ok (.if_icmp .ge 86, 3) := by decide +kernel
theorem dX7_saySo_31 : decode cX7_saySo 31 = .ok (.iload 5, 2) := by decide +kernel
theorem dX7_saySo_33 : decode cX7_saySo 33 = .ok (.iload_n 3, 1) := by decide +kernel
theorem dX7_saySo_34 : decode cX7_saySo 34 = .ok (.if_icmp .lt 16, 3) := by decide +kernel
theorem dX7_saySo_37 : decode cX7_saySo 37 = .ok (.iload 5, 2) := by decide +kernel
theorem dX7_saySo_39 : decode cX7_saySo 39 = .ok (.iload_n 3, 1) := by decide +kernel
theorem dX7_saySo_40 : decode cX7_saySo 40 = .ok (.iload 4, 2) := by decide +kernel
theorem dX7_saySo_42 : decode cX7_saySo 42 = .ok (.iadd, 1) := by decide +kernel
theorem dX7_saySo_43 : decode cX7_saySo 43 = .ok (.if_icmp .ge 7, 3) := by decide +kernel
theorem dX7_saySo_46 : decode cX7_saySo 46 = .ok (.iconst 1, 1) := by decide +kernel
theorem dX7_saySo_47 : decode cX7_saySo 47 = .ok (.goto 4, 3) := by decide +kernel
theorem dX7_saySo_50 : decode cX7_saySo 50 = .ok (.iconst 0, 1) := by decide +kernel
theorem dX7_saySo_51 : decode cX7_saySo 51 = .ok (.istore 6, 2) := by decide +kernel
theorem dX7_saySo_53 : decode cX7_saySo 53 = .ok (.iload 6, 2) := by decide +kernel
theorem dX7_saySo_55 : decode cX7_saySo 55 = .ok (.ifCond .eq 10, 3) := by decide +kernel
theorem dX7_saySo_58 : decode cX7_saySo 58 = .ok (.iload 5, 2) := by decide +kernel
theorem dX7_saySo_60 : decode cX7_saySo 60 = .ok (.iconst 1, 1) := by decide +kernel
theorem dX7_saySo_61 : decode cX7_saySo 61 = .ok (.iadd, 1) := by decide +kernel
theorem dX7_saySo_62 : decode cX7_saySo 62 = .ok (.goto 4, 3) := by decide +kernel
theorem dX7_saySo_65 : decode cX7_saySo 65 = .ok (.iload_n 3, 1) := by decide +kernel
theorem dX7_saySo_66 : decode cX7_saySo 66 = .ok (.istore 7, 2) := by decide +kernel
theorem dX7_saySo_68 : decode cX7_saySo 68 = .ok (.iload 7, 2) := by decide +kernel
theorem dX7_saySo_70 : decode cX7_saySo 70 = .ok (.iload_n 3, 1) := by decide +kernel
theorem dX7_saySo_71 : decode cX7_saySo 71 = .ok (.iload 4, 2) := by decide +kernel
theorem dX7_saySo_73 : decode cX7_saySo 73 = .ok (.iadd, 1) := by decide +kernel
theorem dX7_saySo_74 : decode cX7_saySo 74 = .ok (.if_icmp .ge 34, 3) := by decide +kernel
theorem dX7_saySo_77 : decode cX7_saySo 77 = .ok (.aload_n 0, 1) := by decide +kernel
theorem dX7_saySo_78 : decode cX7_saySo 78 = .ok (.getfield 18, 3) := by decide +kernel
theorem dX7_saySo_81 : decode cX7_saySo 81 = .ok (.iload_n 2, 1) := by decide +kernel
theorem dX7_saySo_82 : decode cX7_saySo 82 = .ok (.iconst 2, 1) := by decide +kernel
theorem dX7_saySo_83 : decode cX7_saySo 83 = .ok (.imul, 1) := by decide +kernel
theorem dX7_saySo_84 : decode cX7_saySo 84 = .ok (.iload 4, 2) := by decide +kernel
theorem dX7_saySo_86 : decode cX7_saySo 86 = .ok (.imul, 1) := by decide +kernel
theorem dX7_saySo_87 : decode cX7_saySo 87 = .ok (.iload 7, 2) := by decide +kernel
theorem dX7_saySo_89 : decode cX7_saySo 89 = .ok (.iadd, 1) := by decide +kernel
theorem dX7_saySo_90 : decode cX7_saySo 90 = .ok (.dup2, 1) := by decide +kernel
theorem dX7_saySo_91 : decode cX7_saySo 91 = .ok (.laload, 1) := by decide +kernel
theorem dX7_saySo_92 : decode cX7_saySo 92 = .ok (.aload_n 0, 1) := by decide +kernel
theorem dX7_saySo_93 : decode cX7_saySo 93 = .ok (.getfield 18, 3) := by decide +kernel
theorem dX7_saySo_96 : decode cX7_saySo 96 = .ok (.iload_n 1, 1) := by decide +kernel
theorem dX7_saySo_97 : decode cX7_saySo 97 = .ok (.iconst 2, 1) := by decide +kernel
theorem dX7_saySo_98 : decode cX7_saySo 98 = .ok (.imul, 1) := by decide +kernel
theorem dX7_saySo_99 : decode cX7_saySo 99 = .ok (.iload 4, 2) := by decide +kernel
theorem dX7_saySo_101 : decode cX7_saySo 101 = .ok (.imul, 1) := by decide +kernel
theorem dX7_saySo_102 : decode cX7_saySo 102 = .ok (.iload 5, 2) := by decide +kernel
theorem dX7_saySo_104 : decode cX7_saySo 104 = .ok (.iadd, 1) := by decide +kernel
theorem dX7_saySo_105 : decode cX7_saySo 105 = .ok (.laload, 1) := by decide +kernel
theorem dX7_saySo_106 : decode cX7_saySo 106 = .ok (.ladd, 1) := by decide +kernel
theorem dX7_saySo_107 : decode cX7_saySo 107 = .ok (.lastore, 1) := by decide +kernel
theorem dX7_saySo_108 : decode cX7_saySo 108 = .ok (.iinc 5 1, 3) := by decide +kernel
theorem dX7_saySo_111 : decode cX7_saySo 111 = .ok (.goto (-89), 3) := by decide +kernel
theorem dX7_saySo_114 : decode cX7_saySo 114 = .ok (.return_, 1) := by decide +kernel
theorem dX8_init_0 : decode cX8_init 0 = .ok (.aload_n 0, 1) := by decide +kernel
theorem dX8_init_1 : decode cX8_init 1 = .ok (.invokespecial 3, 3) := by decide +kernel
theorem dX8_init_4 : decode cX8_init 4 = .ok (.aload_n 0, 1) := by decide +kernel
theorem dX8_init_5 : decode cX8_init 5 = .ok (.bipush 60, 2) := by decide +kernel
theorem dX8_init_7 : decode cX8_init 7 = .ok (.newarray .long, 2) := by decide +kernel
theorem dX8_init_9 : decode cX8_init 9 = .ok (.putfield 9, 3) := by decide +kernel
theorem dX8_init_12 : decode cX8_init 12 = .ok (.return_, 1) := by decide +kernel
theorem dX8_lay_0 : decode cX8_lay 0 = .ok (.aload_n 0, 1) := by decide +kernel
theorem dX8_lay_1 : decode cX8_lay 1 = .ok (.iconst 1, 1) := by decide +kernel
theorem dX8_lay_2 : decode cX8_lay 2 = .ok (.putfield 15, 3) := by decide +kernel
theorem dX8_lay_5 : decode cX8_lay 5 = .ok (.aload_n 0, 1) := by decide +kernel
theorem dX8_lay_6 : decode cX8_lay 6 = .ok (.iload_n 1, 1) := by decide +kernel
theorem dX8_lay_7 : decode cX8_lay 7 = .ok (.putfield 19, 3) := by decide +kernel
theorem dX8_lay_10 : decode cX8_lay 10 = .ok (.aload_n 0, 1) := by decide +kernel
theorem dX8_lay_11 : decode cX8_lay 11 = .ok (.iload_n 2, 1) := by decide +kernel
theorem dX8_lay_12 : decode cX8_lay 12 = .ok (.putfield 23, 3) := by decide +kernel
theorem dX8_lay_15 : decode cX8_lay 15 = .ok (.iconst 0, 1) := by decide +kernel
theorem dX8_lay_16 : decode cX8_lay 16 = .ok (.istore_n 3, 1) := by decide +kernel
theorem dX8_lay_17 : decode cX8_lay 17 = .ok (.iload_n 3, 1) := by decide +kernel
theorem dX8_lay_18 : decode cX8_lay 18 = .ok (.bipush 60, 2) := by decide +kernel
theorem dX8_lay_20 : decode cX8_lay 20 = .ok (.if_icmp .ge 16, 3) := by decide +kernel
theorem dX8_lay_23 : decode cX8_lay 23 = .ok (.aload_n 0, 1) := by decide +kernel
theorem dX8_lay_24 : decode cX8_lay 24 = .ok (.getfield 9, 3) := by decide +kernel
theorem dX8_lay_27 : decode cX8_lay 27 = .ok (.iload_n 3, 1) := by decide +kernel
theorem dX8_lay_28 : decode cX8_lay 28 = .ok (.lconst 0, 1) := by decide +kernel
theorem dX8_lay_29 : decode cX8_lay 29 = .ok (.lastore, 1) := by decide +kernel
theorem dX8_lay_30 : decode cX8_lay 30 = .ok (.iinc 3 1, 3) := by decide +kernel
theorem dX8_lay_33 : decode cX8_lay 33 = .ok (.goto (-16), 3) := by decide +kernel
theorem dX8_lay_36 : decode cX8_lay 36 = .ok (.return_, 1) := by decide +kernel
theorem dX8_hasRow_0 : decode cX8_hasRow 0 = .ok (.iload_n 1, 1) := by decide +kernel
theorem dX8_hasRow_1 : decode cX8_hasRow 1 = .ok (.ifCond .lt 17, 3) := by decide +kernel
theorem dX8_hasRow_4 : decode cX8_hasRow 4 = .ok (.iload_n 1, 1) := by decide +kernel
theorem dX8_hasRow_5 : decode cX8_hasRow 5 = .ok (.aload_n 0, 1) := by decide +kernel
theorem dX8_hasRow_6 : decode cX8_hasRow 6 = .ok (.getfield 23, 3) := by decide +kernel
theorem dX8_hasRow_9 : decode cX8_hasRow 9 = .ok (.iload_n 2, 1) := by decide +kernel
theorem dX8_hasRow_10 : decode cX8_hasRow 10 = .ok (.isub, 1) := by decide +kernel
theorem dX8_hasRow_11 : decode cX8_hasRow 11 = .ok (.if_icmp .gt 7, 3) := by decide +kernel
theorem dX8_hasRow_14 : decode cX8_hasRow 14 = .ok (.iconst 1, 1) := by decide +kernel
theorem dX8_hasRow_15 : decode cX8_hasRow 15 = .ok (.goto 4, 3) := by decide +kernel
theorem dX8_hasRow_18 : decode cX8_hasRow 18 = .ok (.iconst 0, 1) := by decide +kernel
theorem dX8_hasRow_19 : decode cX8_hasRow 19 = .ok (.ireturn, 1) := by decide +kernel
theorem dX8_put_0 : decode cX8_put 0 = .ok (.aload_n 0, 1) := by decide +kernel
theorem dX8_put_1 : decode cX8_put 1 = .ok (.getfield 19, 3) := by decide +kernel
theorem dX8_put_4 : decode cX8_put 4 = .ok (.tableswitch 66 0 2 #[28, 41, 54], 28) := by decide +kernel
theorem dX8_put_32 : decode cX8_put 32 = .ok (.aload_n 0, 1) := by decide +kernel
theorem dX8_put_33 : decode cX8_put 33 = .ok (.getfield 9, 3) := by decide +kernel
theorem dX8_put_36 : decode cX8_put 36 = .ok (.iload_n 1, 1) := by decide +kernel
theorem dX8_put_37 : decode cX8_put 37 = .ok (.lload_n 2, 1) := by decide +kernel
theorem dX8_put_38 : decode cX8_put 38 = .ok (.l2i, 1) := by decide +kernel
theorem dX8_put_39 : decode cX8_put 39 = .ok (.i2b, 1) := by decide +kernel
theorem dX8_put_40 : decode cX8_put 40 = .ok (.i2l, 1) := by decide +kernel
theorem dX8_put_41 : decode cX8_put 41 = .ok (.lastore, 1) := by decide +kernel
theorem dX8_put_42 : decode cX8_put 42 = .ok (.goto 35, 3) := by decide +kernel
theorem dX8_put_45 : decode cX8_put 45 = .ok (.aload_n 0, 1) := by decide +kernel
theorem dX8_put_46 : decode cX8_put 46 = .ok (.getfield 9, 3) := by decide +kernel
theorem dX8_put_49 : decode cX8_put 49 = .ok (.iload_n 1, 1) := by decide +kernel
theorem dX8_put_50 : decode cX8_put 50 = .ok (.lload_n 2, 1) := by decide +kernel
theorem dX8_put_51 : decode cX8_put 51 = .ok (.l2i, 1) := by decide +kernel
theorem dX8_put_52 : decode cX8_put 52 = .ok (.i2s, 1) := by decide +kernel
theorem dX8_put_53 : decode cX8_put 53 = .ok (.i2l, 1) := by decide +kernel
theorem dX8_put_54 : decode cX8_put 54 = .ok (.lastore, 1) := by decide +kernel
theorem dX8_put_55 : decode cX8_put 55 = .ok (.goto 22, 3) := by decide +kernel
theorem dX8_put_58 : decode cX8_put 58 = .ok (.aload_n 0, 1) := by decide +kernel
theorem dX8_put_59 : decode cX8_put 59 = .ok (.getfield 9, 3) := by decide +kernel
theorem dX8_put_62 : decode cX8_put 62 = .ok (.iload_n 1, 1) := by decide +kernel
theorem dX8_put_63 : decode cX8_put 63 = .ok (.lload_n 2, 1) := by decide +kernel
theorem dX8_put_64 : decode cX8_put 64 = .ok (.l2i, 1) := by decide +kernel
theorem dX8_put_65 : decode cX8_put 65 = .ok (.i2l, 1) := by decide +kernel
theorem dX8_put_66 : decode cX8_put 66 = .ok (.lastore, 1) := by decide +kernel
theorem dX8_put_67 : decode cX8_put 67 = .ok (.goto 10, 3) := by decide +kernel
theorem dX8_put_70 : decode cX8_put 70 = .ok (.aload_n 0, 1) := by decide +kernel
theorem dX8_put_71 : decode cX8_put 71 = .ok (.getfield 9, 3) := by decide +kernel
theorem dX8_put_74 : decode cX8_put 74 = .ok (.iload_n 1, 1) := by decide +kernel
theorem dX8_put_75 : decode cX8_put 75 = .ok (.lload_n 2, 1) := by decide +kernel
theorem dX8_put_76 : decode cX8_put 76 = .ok (.lastore, 1) := by decide +kernel
theorem dX8_put_77 : decode cX8_put 77 = .ok (.return_, 1) := by decide +kernel
theorem dX9_init_0 : decode cX9_init 0 = .ok (.aload_n 0, 1) := by decide +kernel
theorem dX9_init_1 : decode cX9_init 1 = .ok (.invokespecial 3, 3) := by decide +kernel
theorem dX9_init_4 : decode cX9_init 4 = .ok (.aload_n 0, 1) := by decide +kernel
theorem dX9_init_5 : decode cX9_init 5 = .ok (.bipush 12, 2) := by decide +kernel
theorem dX9_init_7 : decode cX9_init 7 = .ok (.newarray .boolean, 2) := by decide +kernel
theorem dX9_init_9 : decode cX9_init 9 = .ok (.putfield 9, 3) := by decide +kernel
theorem dX9_init_12 : decode cX9_init 12 = .ok (.return_, 1) := by decide +kernel
theorem dX9_spell_0 : decode cX9_spell 0 = .ok (.aload_n 0, 1) := by decide +kernel
theorem dX9_spell_1 : decode cX9_spell 1 = .ok (.iconst 0, 1) := by decide +kernel
theorem dX9_spell_2 : decode cX9_spell 2 = .ok (.putfield 15, 3) := by decide +kernel
theorem dX9_spell_5 : decode cX9_spell 5 = .ok (.iconst 0, 1) := by decide +kernel
theorem dX9_spell_6 : decode cX9_spell 6 = .ok (.istore 4, 2) := by decide +kernel
theorem dX9_spell_8 : decode cX9_spell 8 = .ok (.iload 4, 2) := by decide +kernel
theorem dX9_spell_10 : decode cX9_spell 10 = .ok (.aload_n 2, 1) := by decide +kernel
theorem dX9_spell_11 : decode cX9_spell 11 = .ok (.getfield 19, 3) := by decide +kernel
theorem dX9_spell_14 : decode cX9_spell 14 = .ok (.if_icmp .ge 49, 3) := by decide +kernel
theorem dX9_spell_17 : decode cX9_spell 17 = .ok (.iload 4, 2) := by decide +kernel
theorem dX9_spell_19 : decode cX9_spell 19 = .ok (.iload_n 3, 1) := by decide +kernel
theorem dX9_spell_20 : decode cX9_spell 20 = .ok (.if_icmp .eq 37, 3) := by decide +kernel
theorem dX9_spell_23 : decode cX9_spell 23 = .ok (.aload_n 0, 1) := by decide +kernel
theorem dX9_spell_24 : decode cX9_spell 24 = .ok (.getfield 9, 3) := by decide +kernel
theorem dX9_spell_27 : decode cX9_spell 27 = .ok (.aload_n 0, 1) := by decide +kernel
theorem dX9_spell_28 : decode cX9_spell 28 = .ok (.getfield 15, 3) := by decide +kernel
theorem dX9_spell_31 : decode cX9_spell 31 = .ok (.aload_n 1, 1) := by decide +kernel
theorem dX9_spell_32 : decode cX9_spell 32 = .ok (.getfield 22, 3) := by decide +kernel
theorem dX9_spell_35 : decode cX9_spell 35 = .ok (.aload_n 2, 1) := by decide +kernel
theorem dX9_spell_36 : decode cX9_spell 36 = .ok (.getfield 28, 3) := by decide +kernel
theorem dX9_spell_39 : decode cX9_spell 39 = .ok (.iload 4, 2) := by decide +kernel
theorem dX9_spell_41 : decode cX9_spell 41 = .ok (.iaload, 1) := by decide +kernel
theorem dX9_spell_42 : decode cX9_spell 42 = .ok (.aaload, 1) := by decide +kernel
theorem dX9_spell_43 : decode cX9_spell 43 = .ok (.getfield 32, 3) := by decide +kernel
theorem dX9_spell_46 : decode cX9_spell 46 = .ok (.bastore, 1) := by decide +kernel
theorem dX9_spell_47 : decode cX9_spell 47 = .ok (.aload_n 0, 1) := by decide +kernel
theorem dX9_spell_48 : decode cX9_spell 48 = .ok (.dup, 1) := by decide +kernel
theorem dX9_spell_49 : decode cX9_spell 49 = .ok (.getfield 15, 3) := by decide +kernel
theorem dX9_spell_52 : decode cX9_spell 52 = .ok (.iconst 1, 1) := by decide +kernel
theorem dX9_spell_53 : decode cX9_spell 53 = .ok (.iadd, 1) := by decide +kernel
theorem dX9_spell_54 : decode cX9_spell 54 = .ok (.putfield 15, 3) := by decide +kernel
theorem dX9_spell_57 : decode cX9_spell 57 = .ok (.iinc 4 1, 3) := by decide +kernel
theorem dX9_spell_60 : decode cX9_spell 60 = .ok (.goto (-52), 3) := by decide +kernel
theorem dX9_spell_63 : decode cX9_spell 63 = .ok (.return_, 1) := by decide +kernel
theorem dX9_add_0 : decode cX9_add 0 = .ok (.aload_n 0, 1) := by decide +kernel
theorem dX9_add_1 : decode cX9_add 1 = .ok (.getfield 15, 3) := by decide +kernel
theorem dX9_add_4 : decode cX9_add 4 = .ok (.bipush 12, 2) := by decide +kernel
theorem dX9_add_6 : decode cX9_add 6 = .ok (.if_icmp .ge 23, 3) := by decide +kernel
theorem dX9_add_9 : decode cX9_add 9 = .ok (.aload_n 0, 1) := by decide +kernel
theorem dX9_add_10 : decode cX9_add 10 = .ok (.getfield 9, 3) := by decide +kernel
theorem dX9_add_13 : decode cX9_add 13 = .ok (.aload_n 0, 1) := by decide +kernel
theorem dX9_add_14 : decode cX9_add 14 = .ok (.getfield 15, 3) := by decide +kernel
theorem dX9_add_17 : decode cX9_add 17 = .ok (.iload_n 1, 1) := by decide +kernel
theorem dX9_add_18 : decode cX9_add 18 = .ok (.bastore, 1) := by decide +kernel
theorem dX9_add_19 : decode cX9_add 19 = .ok (.aload_n 0, 1) := by decide +kernel
theorem dX9_add_20 : decode cX9_add 20 = .ok (.dup, 1) := by decide +kernel
theorem dX9_add_21 : decode cX9_add 21 = .ok (.getfield 15, 3) := by decide +kernel
theorem dX9_add_24 : decode cX9_add 24 = .ok (.iconst 1, 1) := by decide +kernel
theorem dX9_add_25 : decode cX9_add 25 = .ok (.iadd, 1) := by decide +kernel
theorem dX9_add_26 : decode cX9_add 26 = .ok (.putfield 15, 3) := by decide +kernel
theorem dX9_add_29 : decode cX9_add 29 = .ok (.return_, 1) := by decide +kernel
theorem dX9_stumble_0 : decode cX9_stumble 0 = .ok (.iconst 0, 1) := by decide +kernel
theorem dX9_stumble_1 : decode cX9_stumble 1 = .ok (.istore_n 2, 1) := by decide +kernel
theorem dX9_stumble_2 : decode cX9_stumble 2 = .ok (.iconst 0, 1) := by decide +kernel
theorem dX9_stumble_3 : decode cX9_stumble 3 = .ok (.istore_n 3, 1) := by decide +kernel
theorem dX9_stumble_4 : decode cX9_stumble 4 = .ok (.iload_n 3, 1) := by decide +kernel
theorem dX9_stumble_5 : decode cX9_stumble 5 = .ok (.aload_n 0, 1) := by decide +kernel
theorem dX9_stumble_6 : decode cX9_stumble 6 = .ok (.getfield 15, 3) := by decide +kernel
theorem dX9_stumble_9 : decode cX9_stumble 9 = .ok (.if_icmp .ge 45, 3) := by decide +kernel
theorem dX9_stumble_12 : decode cX9_stumble 12 = .ok (.iload_n 3, 1) := by decide +kernel
theorem dX9_stumble_13 : decode cX9_stumble 13 = .ok (.ifCond .le 26, 3) := by decide +kernel
theorem dX9_stumble_16 : decode cX9_stumble 16 = .ok (.aload_n 0, 1) := by decide +kernel
theorem dX9_stumble_17 : decode cX9_stumble 17 = .ok (.getfield 9, 3) := by decide +kernel
theorem dX9_stumble_20 : decode cX9_stumble 20 = .ok (.iload_n 3, 1) := by decide +kernel
theorem dX9_stumble_21 : decode cX9_stumble 21 = .ok (.baload, 1) := by decide +kernel
theorem dX9_stumble_22 : decode cX9_stumble 22 = .ok (.aload_n 0, 1) := by decide +kernel
theorem dX9_stumble_23 : decode cX9_stumble 23 = .ok (.getfield 9, 3) := by decide +kernel
theorem dX9_stumble_26 : decode cX9_stumble 26 = .ok (.iload_n 3, 1) := by decide +kernel
theorem dX9_stumble_27 : decode cX9_stumble 27 = .ok (.iconst 1, 1) := by decide +kernel
theorem dX9_stumble_28 : decode cX9_stumble 28 = .ok (.isub, 1) := by decide +kernel
theorem dX9_stumble_29 : decode cX9_stumble 29 = .ok (.baload, 1) := by decide +kernel
theorem dX9_stumble_30 : decode cX9_stumble 30 = .ok (.if_icmp .ne 9, 3) := by decide +kernel
theorem dX9_stumble_33 : decode cX9_stumble 33 = .ok (.iload_n 2, 1) := by decide +kernel
theorem dX9_stumble_34 : decode cX9_stumble 34 = .ok (.iconst 1, 1) := by decide +kernel
theorem dX9_stumble_35 : decode cX9_stumble 35 = .ok (.iadd, 1) := by decide +kernel
theorem dX9_stumble_36 : decode cX9_stumble 36 = .ok (.goto 4, 3) := by decide +kernel
theorem dX9_stumble_39 : decode cX9_stumble 39 = .ok (.iconst 1, 1) := by decide +kernel
theorem dX9_stumble_40 : decode cX9_stumble 40 = .ok (.istore_n 2, 1) := by decide +kernel
theorem dX9_stumble_41 : decode cX9_stumble 41 = .ok (.iload_n 2, 1) := by decide +kernel
theorem dX9_stumble_42 : decode cX9_stumble 42 = .ok (.iload_n 1, 1) := by decide +kernel
theorem dX9_stumble_43 : decode cX9_stumble 43 = .ok (.if_icmp .le 5, 3) := by decide +kernel
theorem dX9_stumble_46 : decode cX9_stumble 46 = .ok (.iload_n 3, 1) := by decide +kernel
theorem dX9_stumble_47 : decode cX9_stumble 47 = .ok (.ireturn, 1) := by decide +kernel
theorem dX9_stumble_48 : decode cX9_stumble 48 = .ok (.iinc 3 1, 3) := by decide +kernel
theorem dX9_stumble_51 : decode cX9_stumble 51 = .ok (.goto (-47), 3) := by decide +kernel
theorem dX9_stumble_54 : decode cX9_stumble 54 = .ok (.iconst (-1), 1) := by decide +kernel
theorem dX9_stumble_55 : decode cX9_stumble 55 = .ok (.ireturn, 1) := by decide +kernel
theorem dX9_tooMany_0 : decode cX9_tooMany 0 = .ok (.iconst 0, 1) := by decide +kernel
theorem dX9_tooMany_1 : decode cX9_tooMany 1 = .ok (.istore_n 2, 1) := by decide +kernel
theorem dX9_tooMany_2 : decode cX9_tooMany 2 = .ok (.iconst 0, 1) := by decide +kernel
theorem dX9_tooMany_3 : decode cX9_tooMany 3 = .ok (.istore_n 3, 1) := by decide +kernel
theorem dX9_tooMany_4 : decode cX9_tooMany 4 = .ok (.iconst 0, 1) := by decide +kernel
theorem dX9_tooMany_5 : decode cX9_tooMany 5 = .ok (.istore 4, 2) := by decide +kernel
theorem dX9_tooMany_7 : decode cX9_tooMany 7 = .ok (.iload 4, 2) := by decide +kernel
theorem dX9_tooMany_9 : decode cX9_tooMany 9 = .ok (.aload_n 0, 1) := by decide +kernel
theorem dX9_tooMany_10 : decode cX9_tooMany 10 = .ok (.getfield 15, 3) := by decide +kernel
theorem dX9_tooMany_13 : decode cX9_tooMany 13 = .ok (.if_icmp .ge 49, 3) := by decide +kernel
theorem dX9_tooMany_16 : decode cX9_tooMany 16 = .ok (.iload 4, 2) := by decide +kernel
theorem dX9_tooMany_18 : decode cX9_tooMany 18 = .ok (.ifCond .le 28, 3) := by decide +kernel
theorem dX9_tooMany_21 : decode cX9_tooMany 21 = .ok (.aload_n 0, 1) := by decide +kernel
theorem dX9_tooMany_22 : decode cX9_tooMany 22 = .ok (.getfield 9, 3) := by decide +kernel
theorem dX9_tooMany_25 : decode cX9_tooMany 25 = .ok (.iload 4, 2) := by decide +kernel
theorem dX9_tooMany_27 : decode cX9_tooMany 27 = .ok (.baload, 1) := by decide +kernel
theorem dX9_tooMany_28 : decode cX9_tooMany 28 = .ok (.aload_n 0, 1) := by decide +kernel
theorem dX9_tooMany_29 : decode cX9_tooMany 29 = .ok (.getfield 9, 3) := by decide +kernel
theorem dX9_tooMany_32 : decode cX9_tooMany 32 = .ok (.iload 4, 2) := by decide +kernel
theorem dX9_tooMany_34 : decode cX9_tooMany 34 = .ok (.iconst 1, 1) := by decide +kernel
theorem dX9_tooMany_35 : decode cX9_tooMany 35 = .ok (.isub, 1) := by decide +kernel
theorem dX9_tooMany_36 : decode cX9_tooMany 36 = .ok (.baload, 1) := by decide +kernel
theorem dX9_tooMany_37 : decode cX9_tooMany 37 = .ok (.if_icmp .ne 9, 3) := by decide +kernel
theorem dX9_tooMany_40 : decode cX9_tooMany 40 = .ok (.iload_n 2, 1) := by decide +kernel
theorem dX9_tooMany_41 : decode cX9_tooMany 41 = .ok (.iconst 1, 1) := by decide +kernel
theorem dX9_tooMany_42 : decode cX9_tooMany 42 = .ok (.iadd, 1) := by decide +kernel
theorem dX9_tooMany_43 : decode cX9_tooMany 43 = .ok (.goto 4, 3) := by decide +kernel
theorem dX9_tooMany_46 : decode cX9_tooMany 46 = .ok (.iconst 1, 1) := by decide +kernel
theorem dX9_tooMany_47 : decode cX9_tooMany 47 = .ok (.istore_n 2, 1) := by decide +kernel
theorem dX9_tooMany_48 : decode cX9_tooMany 48 = .ok (.iload_n 2, 1) := by decide +kernel
theorem dX9_tooMany_49 : decode cX9_tooMany 49 = .ok (.iload_n 1, 1) := by decide +kernel
theorem dX9_tooMany_50 : decode cX9_tooMany 50 = .ok (.if_icmp .le 6, 3) := by decide +kernel
theorem dX9_tooMany_53 : decode cX9_tooMany 53 = .ok (.iinc 3 1, 3) := by decide +kernel
theorem dX9_tooMany_56 : decode cX9_tooMany 56 = .ok (.iinc 4 1, 3) := by decide +kernel
theorem dX9_tooMany_59 : decode cX9_tooMany 59 = .ok (.goto (-52), 3) := by decide +kernel
theorem dX9_tooMany_62 : decode cX9_tooMany 62 = .ok (.iload_n 3, 1) := by decide +kernel
theorem dX9_tooMany_63 : decode cX9_tooMany 63 = .ok (.ireturn, 1) := by decide +kernel
theorem dJ6_bitCount_0f7a4_0 : decode cJ6_bitCount_0f7a4 0 = .ok (.iload_n 0, 1) := by decide +kernel
theorem dJ6_bitCount_0f7a4_1 : decode cJ6_bitCount_0f7a4 1 = .ok (.iload_n 0, 1) := by decide +kernel
theorem dJ6_bitCount_0f7a4_2 : decode cJ6_bitCount_0f7a4 2 = .ok (.iconst 1, 1) := by decide +kernel
theorem dJ6_bitCount_0f7a4_3 : decode cJ6_bitCount_0f7a4 3 = .ok (.iushr, 1) := by decide +kernel
theorem dJ6_bitCount_0f7a4_4 : decode cJ6_bitCount_0f7a4 4 = .ok (.ldc_w 265, 3) := by decide +kernel
theorem dJ6_bitCount_0f7a4_7 : decode cJ6_bitCount_0f7a4 7 = .ok (.iand, 1) := by decide +kernel
theorem dJ6_bitCount_0f7a4_8 : decode cJ6_bitCount_0f7a4 8 = .ok (.isub, 1) := by decide +kernel
theorem dJ6_bitCount_0f7a4_9 : decode cJ6_bitCount_0f7a4 9 = .ok (.istore_n 0, 1) := by decide +kernel
theorem dJ6_bitCount_0f7a4_10 : decode cJ6_bitCount_0f7a4 10 = .ok (.iload_n 0, 1) := by decide +kernel
theorem dJ6_bitCount_0f7a4_11 : decode cJ6_bitCount_0f7a4 11 = .ok (.ldc_w 266, 3) := by decide +kernel
theorem dJ6_bitCount_0f7a4_14 : decode cJ6_bitCount_0f7a4 14 = .ok (.iand, 1) := by decide +kernel
theorem dJ6_bitCount_0f7a4_15 : decode cJ6_bitCount_0f7a4 15 = .ok (.iload_n 0, 1) := by decide +kernel
theorem dJ6_bitCount_0f7a4_16 : decode cJ6_bitCount_0f7a4 16 = .ok (.iconst 2, 1) := by decide +kernel
theorem dJ6_bitCount_0f7a4_17 : decode cJ6_bitCount_0f7a4 17 = .ok (.iushr, 1) := by decide +kernel
theorem dJ6_bitCount_0f7a4_18 : decode cJ6_bitCount_0f7a4 18 = .ok (.ldc_w 266, 3) := by decide +kernel
theorem dJ6_bitCount_0f7a4_21 : decode cJ6_bitCount_0f7a4 21 = .ok (.iand, 1) := by decide +kernel
theorem dJ6_bitCount_0f7a4_22 : decode cJ6_bitCount_0f7a4 22 = .ok (.iadd, 1) := by decide +kernel
theorem dJ6_bitCount_0f7a4_23 : decode cJ6_bitCount_0f7a4 23 = .ok (.istore_n 0, 1) := by decide +kernel
theorem dJ6_bitCount_0f7a4_24 : decode cJ6_bitCount_0f7a4 24 = .ok (.iload_n 0, 1) := by decide +kernel
theorem dJ6_bitCount_0f7a4_25 : decode cJ6_bitCount_0f7a4 25 = .ok (.iload_n 0, 1) := by decide +kernel
theorem dJ6_bitCount_0f7a4_26 : decode cJ6_bitCount_0f7a4 26 = .ok (.iconst 4, 1) := by decide +kernel
theorem dJ6_bitCount_0f7a4_27 : decode cJ6_bitCount_0f7a4 27 = .ok (.iushr, 1) := by decide +kernel
theorem dJ6_bitCount_0f7a4_28 : decode cJ6_bitCount_0f7a4 28 = .ok (.iadd, 1) := by decide +kernel
theorem dJ6_bitCount_0f7a4_29 : decode cJ6_bitCount_0f7a4 29 = .ok (.ldc_w 267, 3) := by decide +kernel
theorem dJ6_bitCount_0f7a4_32 : decode cJ6_bitCount_0f7a4 32 = .ok (.iand, 1) := by decide +kernel
theorem dJ6_bitCount_0f7a4_33 : decode cJ6_bitCount_0f7a4 33 = .ok (.istore_n 0, 1) := by decide +kernel
theorem dJ6_bitCount_0f7a4_34 : decode cJ6_bitCount_0f7a4 34 = .ok (.iload_n 0, 1) := by decide +kernel
theorem dJ6_bitCount_0f7a4_35 : decode cJ6_bitCount_0f7a4 35 = .ok (.iload_n 0, 1) := by decide +kernel
theorem dJ6_bitCount_0f7a4_36 : decode cJ6_bitCount_0f7a4 36 = .ok (.bipush 8, 2) := by decide +kernel
theorem dJ6_bitCount_0f7a4_38 : decode cJ6_bitCount_0f7a4 38 = .ok (.iushr, 1) := by decide +kernel
theorem dJ6_bitCount_0f7a4_39 : decode cJ6_bitCount_0f7a4 39 = .ok (.iadd, 1) := by decide +kernel
theorem dJ6_bitCount_0f7a4_40 : decode cJ6_bitCount_0f7a4 40 = .ok (.istore_n 0, 1) := by decide +kernel
theorem dJ6_bitCount_0f7a4_41 : decode cJ6_bitCount_0f7a4 41 = .ok (.iload_n 0, 1) := by decide +kernel
theorem dJ6_bitCount_0f7a4_42 : decode cJ6_bitCount_0f7a4 42 = .ok (.iload_n 0, 1) := by decide +kernel
theorem dJ6_bitCount_0f7a4_43 : decode cJ6_bitCount_0f7a4 43 = .ok (.bipush 16, 2) := by decide +kernel
theorem dJ6_bitCount_0f7a4_45 : decode cJ6_bitCount_0f7a4 45 = .ok (.iushr, 1) := by decide +kernel
theorem dJ6_bitCount_0f7a4_46 : decode cJ6_bitCount_0f7a4 46 = .ok (.iadd, 1) := by decide +kernel
theorem dJ6_bitCount_0f7a4_47 : decode cJ6_bitCount_0f7a4 47 = .ok (.istore_n 0, 1) := by decide +kernel
theorem dJ6_bitCount_0f7a4_48 : decode cJ6_bitCount_0f7a4 48 = .ok (.iload_n 0, 1) := by decide +kernel
theorem dJ6_bitCount_0f7a4_49 : decode cJ6_bitCount_0f7a4 49 = .ok (.bipush 63, 2) := by decide +kernel
theorem dJ6_bitCount_0f7a4_51 : decode cJ6_bitCount_0f7a4 51 = .ok (.iand, 1) := by decide +kernel
theorem dJ6_bitCount_0f7a4_52 : decode cJ6_bitCount_0f7a4 52 = .ok (.ireturn, 1) := by decide +kernel
theorem dJ9_abs_067f4_0 : decode cJ9_abs_067f4 0 = .ok (.lload_n 0, 1) := by decide +kernel
theorem dJ9_abs_067f4_1 : decode cJ9_abs_067f4 1 = .ok (.lconst 0, 1) := by decide +kernel
theorem dJ9_abs_067f4_2 : decode cJ9_abs_067f4 2 = .ok (.lcmp, 1) := by decide +kernel
theorem dJ9_abs_067f4_3 : decode cJ9_abs_067f4 3 = .ok (.ifCond .ge 8, 3) := by decide +kernel
theorem dJ9_abs_067f4_6 : decode cJ9_abs_067f4 6 = .ok (.lload_n 0, 1) := by decide +kernel
theorem dJ9_abs_067f4_7 : decode cJ9_abs_067f4 7 = .ok (.lneg, 1) := by decide +kernel
theorem dJ9_abs_067f4_8 : decode cJ9_abs_067f4 8 = .ok (.goto 4, 3) := by decide +kernel
theorem dJ9_abs_067f4_11 : decode cJ9_abs_067f4 11 = .ok (.lload_n 0, 1) := by decide +kernel
theorem dJ9_abs_067f4_12 : decode cJ9_abs_067f4 12 = .ok (.lreturn, 1) := by decide +kernel
theorem dJ9_max_7cf53_0 : decode cJ9_max_7cf53 0 = .ok (.iload_n 0, 1) := by decide +kernel
theorem dJ9_max_7cf53_1 : decode cJ9_max_7cf53 1 = .ok (.iload_n 1, 1) := by decide +kernel
theorem dJ9_max_7cf53_2 : decode cJ9_max_7cf53 2 = .ok (.if_icmp .lt 7, 3) := by decide +kernel
theorem dJ9_max_7cf53_5 : decode cJ9_max_7cf53 5 = .ok (.iload_n 0, 1) := by decide +kernel
theorem dJ9_max_7cf53_6 : decode cJ9_max_7cf53 6 = .ok (.goto 4, 3) := by decide +kernel
theorem dJ9_max_7cf53_9 : decode cJ9_max_7cf53 9 = .ok (.iload_n 1, 1) := by decide +kernel
theorem dJ9_max_7cf53_10 : decode cJ9_max_7cf53 10 = .ok (.ireturn, 1) := by decide +kernel
theorem dJ9_min_7cf53_0 : decode cJ9_min_7cf53 0 = .ok (.iload_n 0, 1) := by decide +kernel
theorem dJ9_min_7cf53_1 : decode cJ9_min_7cf53 1 = .ok (.iload_n 1, 1) := by decide +kernel
theorem dJ9_min_7cf53_2 : decode cJ9_min_7cf53 2 = .ok (.if_icmp .gt 7, 3) := by decide +kernel
theorem dJ9_min_7cf53_5 : decode cJ9_min_7cf53 5 = .ok (.iload_n 0, 1) := by decide +kernel
theorem dJ9_min_7cf53_6 : decode cJ9_min_7cf53 6 = .ok (.goto 4, 3) := by decide +kernel
theorem dJ9_min_7cf53_9 : decode cJ9_min_7cf53 9 = .ok (.iload_n 1, 1) := by decide +kernel
theorem dJ9_min_7cf53_10 : decode cJ9_min_7cf53 10 = .ok (.ireturn, 1) := by decide +kernel
theorem dJ9_min_f86c9_0 : decode cJ9_min_f86c9 0 = .ok (.lload_n 0, 1) := by decide +kernel
theorem dJ9_min_f86c9_1 : decode cJ9_min_f86c9 1 = .ok (.lload_n 2, 1) := by decide +kernel
theorem dJ9_min_f86c9_2 : decode cJ9_min_f86c9 2 = .ok (.lcmp, 1) := by decide +kernel
theorem dJ9_min_f86c9_3 : decode cJ9_min_f86c9 3 = .ok (.ifCond .gt 7, 3) := by decide +kernel
theorem dJ9_min_f86c9_6 : decode cJ9_min_f86c9 6 = .ok (.lload_n 0, 1) := by decide +kernel
theorem dJ9_min_f86c9_7 : decode cJ9_min_f86c9 7 = .ok (.goto 4, 3) := by decide +kernel
theorem dJ9_min_f86c9_10 : decode cJ9_min_f86c9 10 = .ok (.lload_n 2, 1) := by decide +kernel
theorem dJ9_min_f86c9_11 : decode cJ9_min_f86c9 11 = .ok (.lreturn, 1) := by decide +kernel
