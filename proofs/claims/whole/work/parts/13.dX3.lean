theorem dX3_init_0 : decode cX3_init 0 = .ok (.aload_n 0, 1) := by decide +kernel
theorem dX3_init_1 : decode cX3_init 1 = .ok (.invokespecial 3, 3) := by decide +kernel
theorem dX3_init_4 : decode cX3_init 4 = .ok (.aload_n 0, 1) := by decide +kernel
theorem dX3_init_5 : decode cX3_init 5 = .ok (.new 9, 3) := by decide +kernel
theorem dX3_init_8 : decode cX3_init 8 = .ok (.dup, 1) := by decide +kernel
theorem dX3_init_9 : decode cX3_init 9 = .ok (.invokespecial 11, 3) := by decide +kernel
theorem dX3_init_12 : decode cX3_init 12 = .ok (.putfield 12, 3) := by decide +kernel
theorem dX3_init_15 : decode cX3_init 15 = .ok (.aload_n 0, 1) := by decide +kernel
theorem dX3_init_16 : decode cX3_init 16 = .ok (.new 18, 3) := by decide +kernel
theorem dX3_init_19 : decode cX3_init 19 = .ok (.dup, 1) := by decide +kernel
theorem dX3_init_20 : decode cX3_init 20 = .ok (.invokespecial 20, 3) := by decide +kernel
theorem dX3_init_23 : decode cX3_init 23 = .ok (.putfield 21, 3) := by decide +kernel
theorem dX3_init_26 : decode cX3_init 26 = .ok (.aload_n 0, 1) := by decide +kernel
theorem dX3_init_27 : decode cX3_init 27 = .ok (.iconst 0, 1) := by decide +kernel
theorem dX3_init_28 : decode cX3_init 28 = .ok (.putfield 25, 3) := by decide +kernel
theorem dX3_init_31 : decode cX3_init 31 = .ok (.aload_n 0, 1) := by decide +kernel
theorem dX3_init_32 : decode cX3_init 32 = .ok (.bipush 7, 2) := by decide +kernel
theorem dX3_init_34 : decode cX3_init 34 = .ok (.newarray .int, 2) := by decide +kernel
theorem dX3_init_36 : decode cX3_init 36 = .ok (.putfield 29, 3) := by decide +kernel
theorem dX3_init_39 : decode cX3_init 39 = .ok (.aload_n 0, 1) := by decide +kernel
theorem dX3_init_40 : decode cX3_init 40 = .ok (.bipush 7, 2) := by decide +kernel
theorem dX3_init_42 : decode cX3_init 42 = .ok (.bipush 7, 2) := by decide +kernel
theorem dX3_init_44 : decode cX3_init 44 = .ok (.multianewarray 33 2, 4) := by decide +kernel
theorem dX3_init_48 : decode cX3_init 48 = .ok (.putfield 35, 3) := by decide +kernel
theorem dX3_init_51 : decode cX3_init 51 = .ok (.aload_n 0, 1) := by decide +kernel
theorem dX3_init_52 : decode cX3_init 52 = .ok (.bipush 7, 2) := by decide +kernel
theorem dX3_init_54 : decode cX3_init 54 = .ok (.bipush 7, 2) := by decide +kernel
theorem dX3_init_56 : decode cX3_init 56 = .ok (.multianewarray 33 2, 4) := by decide +kernel
theorem dX3_init_60 : decode cX3_init 60 = .ok (.putfield 38, 3) := by decide +kernel
theorem dX3_init_63 : decode cX3_init 63 = .ok (.aload_n 0, 1) := by decide +kernel
theorem dX3_init_64 : decode cX3_init 64 = .ok (.bipush 7, 2) := by decide +kernel
theorem dX3_init_66 : decode cX3_init 66 = .ok (.newarray .int, 2) := by decide +kernel
theorem dX3_init_68 : decode cX3_init 68 = .ok (.putfield 41, 3) := by decide +kernel
theorem dX3_init_71 : decode cX3_init 71 = .ok (.aload_n 0, 1) := by decide +kernel
theorem dX3_init_72 : decode cX3_init 72 = .ok (.new 44, 3) := by decide +kernel
theorem dX3_init_75 : decode cX3_init 75 = .ok (.dup, 1) := by decide +kernel
theorem dX3_init_76 : decode cX3_init 76 = .ok (.invokespecial 46, 3) := by decide +kernel
theorem dX3_init_79 : decode cX3_init 79 = .ok (.putfield 47, 3) := by decide +kernel
theorem dX3_init_82 : decode cX3_init 82 = .ok (.return_, 1) := by decide +kernel
theorem dX3_build_0 : decode cX3_build 0 = .ok (.aload_n 0, 1) := by decide +kernel
theorem dX3_build_1 : decode cX3_build 1 = .ok (.aload_n 0, 1) := by decide +kernel
theorem dX3_build_2 : decode cX3_build 2 = .ok (.getfield 12, 3) := by decide +kernel
theorem dX3_build_5 : decode cX3_build 5 = .ok (.getfield 51, 3) := by decide +kernel
theorem dX3_build_8 : decode cX3_build 8 = .ok (.putfield 25, 3) := by decide +kernel
theorem dX3_build_11 : decode cX3_build 11 = .ok (.aload_n 0, 1) := by decide +kernel
theorem dX3_build_12 : decode cX3_build 12 = .ok (.getfield 47, 3) := by decide +kernel
theorem dX3_build_15 : decode cX3_build 15 = .ok (.aload_n 0, 1) := by decide +kernel
theorem dX3_build_16 : decode cX3_build 16 = .ok (.getfield 12, 3) := by decide +kernel
theorem dX3_build_19 : decode cX3_build 19 = .ok (.aload_n 0, 1) := by decide +kernel
theorem dX3_build_20 : decode cX3_build 20 = .ok (.getfield 21, 3) := by decide +kernel
theorem dX3_build_23 : decode cX3_build 23 = .ok (.invokevirtual 52, 3) := by decide +kernel
theorem dX3_build_26 : decode cX3_build 26 = .ok (.iconst 0, 1) := by decide +kernel
theorem dX3_build_27 : decode cX3_build 27 = .ok (.istore_n 1, 1) := by decide +kernel
theorem dX3_build_28 : decode cX3_build 28 = .ok (.iload_n 1, 1) := by decide +kernel
theorem dX3_build_29 : decode cX3_build 29 = .ok (.aload_n 0, 1) := by decide +kernel
theorem dX3_build_30 : decode cX3_build 30 = .ok (.getfield 25, 3) := by decide +kernel
theorem dX3_build_33 : decode cX3_build 33 = .ok (.if_icmp .ge 98, 3) := by decide +kernel
theorem dX3_build_36 : decode cX3_build 36 = .ok (.aload_n 0, 1) := by decide +kernel
theorem dX3_build_37 : decode cX3_build 37 = .ok (.getfield 47, 3) := by decide +kernel
theorem dX3_build_40 : decode cX3_build 40 = .ok (.iload_n 1, 1) := by decide +kernel
theorem dX3_build_41 : decode cX3_build 41 = .ok (.aload_n 0, 1) := by decide +kernel
theorem dX3_build_42 : decode cX3_build 42 = .ok (.getfield 35, 3) := by decide +kernel
theorem dX3_build_45 : decode cX3_build 45 = .ok (.iload_n 1, 1) := by decide +kernel
theorem dX3_build_46 : decode cX3_build 46 = .ok (.aaload, 1) := by decide +kernel
theorem dX3_build_47 : decode cX3_build 47 = .ok (.aload_n 0, 1) := by decide +kernel
theorem dX3_build_48 : decode cX3_build 48 = .ok (.getfield 21, 3) := by decide +kernel
theorem dX3_build_51 : decode cX3_build 51 = .ok (.invokevirtual 56, 3) := by decide +kernel
theorem dX3_build_54 : decode cX3_build 54 = .ok (.aload_n 0, 1) := by decide +kernel
theorem dX3_build_55 : decode cX3_build 55 = .ok (.getfield 29, 3) := by decide +kernel
theorem dX3_build_58 : decode cX3_build 58 = .ok (.iload_n 1, 1) := by decide +kernel
theorem dX3_build_59 : decode cX3_build 59 = .ok (.aload_n 0, 1) := by decide +kernel
theorem dX3_build_60 : decode cX3_build 60 = .ok (.aload_n 0, 1) := by decide +kernel
theorem dX3_build_61 : decode cX3_build 61 = .ok (.getfield 35, 3) := by decide +kernel
theorem dX3_build_64 : decode cX3_build 64 = .ok (.iload_n 1, 1) := by decide +kernel
theorem dX3_build_65 : decode cX3_build 65 = .ok (.aaload, 1) := by decide +kernel
theorem dX3_build_66 : decode cX3_build 66 = .ok (.invokevirtual 60, 3) := by decide +kernel
theorem dX3_build_69 : decode cX3_build 69 = .ok (.iastore, 1) := by decide +kernel
theorem dX3_build_70 : decode cX3_build 70 = .ok (.iconst 0, 1) := by decide +kernel
theorem dX3_build_71 : decode cX3_build 71 = .ok (.istore_n 2, 1) := by decide +kernel
theorem dX3_build_72 : decode cX3_build 72 = .ok (.iload_n 2, 1) := by decide +kernel
theorem dX3_build_73 : decode cX3_build 73 = .ok (.aload_n 0, 1) := by decide +kernel
theorem dX3_build_74 : decode cX3_build 74 = .ok (.getfield 25, 3) := by decide +kernel
theorem dX3_build_77 : decode cX3_build 77 = .ok (.if_icmp .ge 48, 3) := by decide +kernel
theorem dX3_build_80 : decode cX3_build 80 = .ok (.aload_n 0, 1) := by decide +kernel
theorem dX3_build_81 : decode cX3_build 81 = .ok (.getfield 38, 3) := by decide +kernel
theorem dX3_build_84 : decode cX3_build 84 = .ok (.iload_n 1, 1) := by decide +kernel
theorem dX3_build_85 : decode cX3_build 85 = .ok (.aaload, 1) := by decide +kernel
theorem dX3_build_86 : decode cX3_build 86 = .ok (.iload_n 2, 1) := by decide +kernel
theorem dX3_build_87 : decode cX3_build 87 = .ok (.aload_n 0, 1) := by decide +kernel
theorem dX3_build_88 : decode cX3_build 88 = .ok (.getfield 21, 3) := by decide +kernel
theorem dX3_build_91 : decode cX3_build 91 = .ok (.aload_n 0, 1) := by decide +kernel
theorem dX3_build_92 : decode cX3_build 92 = .ok (.getfield 29, 3) := by decide +kernel
theorem dX3_build_95 : decode cX3_build 95 = .ok (.iload_n 1, 1) := by decide +kernel
theorem dX3_build_96 : decode cX3_build 96 = .ok (.iaload, 1) := by decide +kernel
theorem dX3_build_97 : decode cX3_build 97 = .ok (.aload_n 0, 1) := by decide +kernel
theorem dX3_build_98 : decode cX3_build 98 = .ok (.getfield 35, 3) := by decide +kernel
theorem dX3_build_101 : decode cX3_build 101 = .ok (.iload_n 1, 1) := by decide +kernel
theorem dX3_build_102 : decode cX3_build 102 = .ok (.aaload, 1) := by decide +kernel
theorem dX3_build_103 : decode cX3_build 103 = .ok (.iload_n 2, 1) := by decide +kernel
theorem dX3_build_104 : decode cX3_build 104 = .ok (.iaload, 1) := by decide +kernel
theorem dX3_build_105 : decode cX3_build 105 = .ok (.imul, 1) := by decide +kernel
theorem dX3_build_106 : decode cX3_build 106 = .ok (.aload_n 0, 1) := by decide +kernel
theorem dX3_build_107 : decode cX3_build 107 = .ok (.getfield 12, 3) := by decide +kernel
theorem dX3_build_110 : decode cX3_build 110 = .ok (.getfield 64, 3) := by decide +kernel
theorem dX3_build_113 : decode cX3_build 113 = .ok (.iload_n 2, 1) := by decide +kernel
theorem dX3_build_114 : decode cX3_build 114 = .ok (.iaload, 1) := by decide +kernel
theorem dX3_build_115 : decode cX3_build 115 = .ok (.invokevirtual 67, 3) := by decide +kernel
theorem dX3_build_118 : decode cX3_build 118 = .ok (.iastore, 1) := by decide +kernel
theorem dX3_build_119 : decode cX3_build 119 = .ok (.iinc 2 1, 3) := by decide +kernel
theorem dX3_build_122 : decode cX3_build 122 = .ok (.goto (-50), 3) := by decide +kernel
theorem dX3_build_125 : decode cX3_build 125 = .ok (.iinc 1 1, 3) := by decide +kernel
theorem dX3_build_128 : decode cX3_build 128 = .ok (.goto (-100), 3) := by decide +kernel
theorem dX3_build_131 : decode cX3_build 131 = .ok (.aload_n 0, 1) := by decide +kernel
theorem dX3_build_132 : decode cX3_build 132 = .ok (.invokevirtual 71, 3) := by decide +kernel
theorem dX3_build_135 : decode cX3_build 135 = .ok (.return_, 1) := by decide +kernel
theorem dX3_countOfDegreeOne_0 : decode cX3_countOfDegreeOne 0 = .ok (.iconst 0, 1) := by decide +kernel
theorem dX3_countOfDegreeOne_1 : decode cX3_countOfDegreeOne 1 = .ok (.istore_n 1, 1) := by decide +kernel
theorem dX3_countOfDegreeOne_2 : decode cX3_countOfDegreeOne 2 = .ok (.iconst 0, 1) := by decide +kernel
theorem dX3_countOfDegreeOne_3 : decode cX3_countOfDegreeOne 3 = .ok (.istore_n 2, 1) := by decide +kernel
theorem dX3_countOfDegreeOne_4 : decode cX3_countOfDegreeOne 4 = .ok (.iload_n 2, 1) := by decide +kernel
theorem dX3_countOfDegreeOne_5 : decode cX3_countOfDegreeOne 5 = .ok (.aload_n 0, 1) := by decide +kernel
theorem dX3_countOfDegreeOne_6 : decode cX3_countOfDegreeOne 6 = .ok (.getfield 25, 3) := by decide +kernel
theorem dX3_countOfDegreeOne_9 : decode cX3_countOfDegreeOne 9 = .ok (.if_icmp .ge 22, 3) := by decide +kernel
theorem dX3_countOfDegreeOne_12 : decode cX3_countOfDegreeOne 12 = .ok (.aload_n 0, 1) := by decide +kernel
theorem dX3_countOfDegreeOne_13 : decode cX3_countOfDegreeOne 13 = .ok (.getfield 29, 3) := by decide +kernel
theorem dX3_countOfDegreeOne_16 : decode cX3_countOfDegreeOne 16 = .ok (.iload_n 2, 1) := by decide +kernel
theorem dX3_countOfDegreeOne_17 : decode cX3_countOfDegreeOne 17 = .ok (.iaload, 1) := by decide +kernel
theorem dX3_countOfDegreeOne_18 : decode cX3_countOfDegreeOne 18 = .ok (.iconst 1, 1) := by decide +kernel
theorem dX3_countOfDegreeOne_19 : decode cX3_countOfDegreeOne 19 = .ok (.if_icmp .ne 6, 3) := by decide +kernel
theorem dX3_countOfDegreeOne_22 : decode cX3_countOfDegreeOne 22 = .ok (.iinc 1 1, 3) := by decide +kernel
theorem dX3_countOfDegreeOne_25 : decode cX3_countOfDegreeOne 25 = .ok (.iinc 2 1, 3) := by decide +kernel
theorem dX3_countOfDegreeOne_28 : decode cX3_countOfDegreeOne 28 = .ok (.goto (-24), 3) := by decide +kernel
theorem dX3_countOfDegreeOne_31 : decode cX3_countOfDegreeOne 31 = .ok (.iload_n 1, 1) := by decide +kernel
theorem dX3_countOfDegreeOne_32 : decode cX3_countOfDegreeOne 32 = .ok (.ireturn, 1) := by decide +kernel
theorem dX3_rootCount_0 : decode cX3_rootCount 0 = .ok (.aload_n 0, 1) := by decide +kernel
theorem dX3_rootCount_1 : decode cX3_rootCount 1 = .ok (.getfield 12, 3) := by decide +kernel
theorem dX3_rootCount_4 : decode cX3_rootCount 4 = .ok (.getfield 74, 3) := by decide +kernel
theorem dX3_rootCount_7 : decode cX3_rootCount 7 = .ok (.iload_n 2, 1) := by decide +kernel
theorem dX3_rootCount_8 : decode cX3_rootCount 8 = .ok (.iaload, 1) := by decide +kernel
theorem dX3_rootCount_9 : decode cX3_rootCount 9 = .ok (.istore 4, 2) := by decide +kernel
theorem dX3_rootCount_11 : decode cX3_rootCount 11 = .ok (.iload 4, 2) := by decide +kernel
theorem dX3_rootCount_13 : decode cX3_rootCount 13 = .ok (.ifCond .le 13, 3) := by decide +kernel
theorem dX3_rootCount_16 : decode cX3_rootCount 16 = .ok (.aload_n 0, 1) := by decide +kernel
theorem dX3_rootCount_17 : decode cX3_rootCount 17 = .ok (.getfield 12, 3) := by decide +kernel
theorem dX3_rootCount_20 : decode cX3_rootCount 20 = .ok (.getfield 77, 3) := by decide +kernel
theorem dX3_rootCount_23 : decode cX3_rootCount 23 = .ok (.ifCond .gt 5, 3) := by decide +kernel
theorem dX3_rootCount_26 : decode cX3_rootCount 26 = .ok (.iconst 0, 1) := by decide +kernel
theorem dX3_rootCount_27 : decode cX3_rootCount 27 = .ok (.ireturn, 1) := by decide +kernel
theorem dX3_rootCount_28 : decode cX3_rootCount 28 = .ok (.aload_n 0, 1) := by decide +kernel
theorem dX3_rootCount_29 : decode cX3_rootCount 29 = .ok (.getfield 12, 3) := by decide +kernel
theorem dX3_rootCount_32 : decode cX3_rootCount 32 = .ok (.getfield 77, 3) := by decide +kernel
theorem dX3_rootCount_35 : decode cX3_rootCount 35 = .ok (.iload 4, 2) := by decide +kernel
theorem dX3_rootCount_37 : decode cX3_rootCount 37 = .ok (.idiv, 1) := by decide +kernel
theorem dX3_rootCount_38 : decode cX3_rootCount 38 = .ok (.istore 5, 2) := by decide +kernel
theorem dX3_rootCount_40 : decode cX3_rootCount 40 = .ok (.iconst 0, 1) := by decide +kernel
theorem dX3_rootCount_41 : decode cX3_rootCount 41 = .ok (.istore 6, 2) := by decide +kernel
theorem dX3_rootCount_43 : decode cX3_rootCount 43 = .ok (.iconst 0, 1) := by decide +kernel
theorem dX3_rootCount_44 : decode cX3_rootCount 44 = .ok (.istore 7, 2) := by decide +kernel
theorem dX3_rootCount_46 : decode cX3_rootCount 46 = .ok (.iload 7, 2) := by decide +kernel
theorem dX3_rootCount_48 : decode cX3_rootCount 48 = .ok (.iload 4, 2) := by decide +kernel
theorem dX3_rootCount_50 : decode cX3_rootCount 50 = .ok (.if_icmp .ge 62, 3) := by decide +kernel
theorem dX3_rootCount_53 : decode cX3_rootCount 53 = .ok (.iload 5, 2) := by decide +kernel
theorem dX3_rootCount_55 : decode cX3_rootCount 55 = .ok (.ineg, 1) := by decide +kernel
theorem dX3_rootCount_56 : decode cX3_rootCount 56 = .ok (.iload 7, 2) := by decide +kernel
theorem dX3_rootCount_58 : decode cX3_rootCount 58 = .ok (.imul, 1) := by decide +kernel
theorem dX3_rootCount_59 : decode cX3_rootCount 59 = .ok (.iload_n 3, 1) := by decide +kernel
theorem dX3_rootCount_60 : decode cX3_rootCount 60 = .ok (.imul, 1) := by decide +kernel
theorem dX3_rootCount_61 : decode cX3_rootCount 61 = .ok (.aload_n 0, 1) := by decide +kernel
theorem dX3_rootCount_62 : decode cX3_rootCount 62 = .ok (.getfield 12, 3) := by decide +kernel
theorem dX3_rootCount_65 : decode cX3_rootCount 65 = .ok (.getfield 77, 3) := by decide +kernel
theorem dX3_rootCount_68 : decode cX3_rootCount 68 = .ok (.invokestatic 80, 3) := by decide +kernel
theorem dX3_rootCount_71 : decode cX3_rootCount 71 = .ok (.istore 8, 2) := by decide +kernel
theorem dX3_rootCount_73 : decode cX3_rootCount 73 = .ok (.iload 6, 2) := by decide +kernel
theorem dX3_rootCount_75 : decode cX3_rootCount 75 = .ok (.aload_n 0, 1) := by decide +kernel
theorem dX3_rootCount_76 : decode cX3_rootCount 76 = .ok (.getfield 38, 3) := by decide +kernel
theorem dX3_rootCount_79 : decode cX3_rootCount 79 = .ok (.iload_n 1, 1) := by decide +kernel
theorem dX3_rootCount_80 : decode cX3_rootCount 80 = .ok (.aaload, 1) := by decide +kernel
theorem dX3_rootCount_81 : decode cX3_rootCount 81 = .ok (.aload_n 0, 1) := by decide +kernel
theorem dX3_rootCount_82 : decode cX3_rootCount 82 = .ok (.getfield 12, 3) := by decide +kernel
theorem dX3_rootCount_85 : decode cX3_rootCount 85 = .ok (.iload_n 2, 1) := by decide +kernel
theorem dX3_rootCount_86 : decode cX3_rootCount 86 = .ok (.iload 7, 2) := by decide +kernel
theorem dX3_rootCount_88 : decode cX3_rootCount 88 = .ok (.invokevirtual 85, 3) := by decide +kernel
theorem dX3_rootCount_91 : decode cX3_rootCount 91 = .ok (.iaload, 1) := by decide +kernel
theorem dX3_rootCount_92 : decode cX3_rootCount 92 = .ok (.aload_n 0, 1) := by decide +kernel
theorem dX3_rootCount_93 : decode cX3_rootCount 93 = .ok (.getfield 21, 3) := by decide +kernel
theorem dX3_rootCount_96 : decode cX3_rootCount 96 = .ok (.getfield 88, 3) := by decide +kernel
theorem dX3_rootCount_99 : decode cX3_rootCount 99 = .ok (.iload 8, 2) := by decide +kernel
theorem dX3_rootCount_101 : decode cX3_rootCount 101 = .ok (.iaload, 1) := by decide +kernel
theorem dX3_rootCount_102 : decode cX3_rootCount 102 = .ok (.imul, 1) := by decide +kernel
theorem dX3_rootCount_103 : decode cX3_rootCount 103 = .ok (.iadd, 1) := by decide +kernel
theorem dX3_rootCount_104 : decode cX3_rootCount 104 = .ok (.istore 6, 2) := by decide +kernel
theorem dX3_rootCount_106 : decode cX3_rootCount 106 = .ok (.iinc 7 1, 3) := by decide +kernel
theorem dX3_rootCount_109 : decode cX3_rootCount 109 = .ok (.goto (-63), 3) := by decide +kernel
theorem dX3_rootCount_112 : decode cX3_rootCount 112 = .ok (.aload_n 0, 1) := by decide +kernel
theorem dX3_rootCount_113 : decode cX3_rootCount 113 = .ok (.getfield 21, 3) := by decide +kernel
theorem dX3_rootCount_116 : decode cX3_rootCount 116 = .ok (.iload 6, 2) := by decide +kernel
theorem dX3_rootCount_118 : decode cX3_rootCount 118 = .ok (.iload 4, 2) := by decide +kernel
theorem dX3_rootCount_120 : decode cX3_rootCount 120 = .ok (.invokevirtual 67, 3) := by decide +kernel
theorem dX3_rootCount_123 : decode cX3_rootCount 123 = .ok (.ireturn, 1) := by decide +kernel
theorem dX3_mirrorSign_0 : decode cX3_mirrorSign 0 = .ok (.iconst 0, 1) := by decide +kernel
theorem dX3_mirrorSign_1 : decode cX3_mirrorSign 1 = .ok (.istore_n 2, 1) := by decide +kernel
theorem dX3_mirrorSign_2 : decode cX3_mirrorSign 2 = .ok (.iconst 0, 1) := by decide +kernel
theorem dX3_mirrorSign_3 : decode cX3_mirrorSign 3 = .ok (.istore_n 3, 1) := by decide +kernel
theorem dX3_mirrorSign_4 : decode cX3_mirrorSign 4 = .ok (.iload_n 3, 1) := by decide +kernel
theorem dX3_mirrorSign_5 : decode cX3_mirrorSign 5 = .ok (.aload_n 0, 1) := by decide +kernel
theorem dX3_mirrorSign_6 : decode cX3_mirrorSign 6 = .ok (.getfield 25, 3) := by decide +kernel
theorem dX3_mirrorSign_9 : decode cX3_mirrorSign 9 = .ok (.if_icmp .ge 38, 3) := by decide +kernel
theorem dX3_mirrorSign_12 : decode cX3_mirrorSign 12 = .ok (.iload_n 2, 1) := by decide +kernel
theorem dX3_mirrorSign_13 : decode cX3_mirrorSign 13 = .ok (.aload_n 0, 1) := by decide +kernel
theorem dX3_mirrorSign_14 : decode cX3_mirrorSign 14 = .ok (.getfield 12, 3) := by decide +kernel
theorem dX3_mirrorSign_17 : decode cX3_mirrorSign 17 = .ok (.getfield 64, 3) := by decide +kernel
theorem dX3_mirrorSign_20 : decode cX3_mirrorSign 20 = .ok (.iload_n 3, 1) := by decide +kernel
theorem dX3_mirrorSign_21 : decode cX3_mirrorSign 21 = .ok (.iaload, 1) := by decide +kernel
theorem dX3_mirrorSign_22 : decode cX3_mirrorSign 22 = .ok (.aload_n 0, 1) := by decide +kernel
theorem dX3_mirrorSign_23 : decode cX3_mirrorSign 23 = .ok (.getfield 38, 3) := by decide +kernel
theorem dX3_mirrorSign_26 : decode cX3_mirrorSign 26 = .ok (.iload_n 1, 1) := by decide +kernel
theorem dX3_mirrorSign_27 : decode cX3_mirrorSign 27 = .ok (.aaload, 1) := by decide +kernel
theorem dX3_mirrorSign_28 : decode cX3_mirrorSign 28 = .ok (.aload_n 0, 1) := by decide +kernel
theorem dX3_mirrorSign_29 : decode cX3_mirrorSign 29 = .ok (.getfield 12, 3) := by decide +kernel
theorem dX3_mirrorSign_32 : decode cX3_mirrorSign 32 = .ok (.iload_n 3, 1) := by decide +kernel
theorem dX3_mirrorSign_33 : decode cX3_mirrorSign 33 = .ok (.iconst 2, 1) := by decide +kernel
theorem dX3_mirrorSign_34 : decode cX3_mirrorSign 34 = .ok (.invokevirtual 85, 3) := by decide +kernel
theorem dX3_mirrorSign_37 : decode cX3_mirrorSign 37 = .ok (.iaload, 1) := by decide +kernel
theorem dX3_mirrorSign_38 : decode cX3_mirrorSign 38 = .ok (.imul, 1) := by decide +kernel
theorem dX3_mirrorSign_39 : decode cX3_mirrorSign 39 = .ok (.iadd, 1) := by decide +kernel
theorem dX3_mirrorSign_40 : decode cX3_mirrorSign 40 = .ok (.istore_n 2, 1) := by decide +kernel
theorem dX3_mirrorSign_41 : decode cX3_mirrorSign 41 = .ok (.iinc 3 1, 3) := by decide +kernel
theorem dX3_mirrorSign_44 : decode cX3_mirrorSign 44 = .ok (.goto (-40), 3) := by decide +kernel
theorem dX3_mirrorSign_47 : decode cX3_mirrorSign 47 = .ok (.aload_n 0, 1) := by decide +kernel
theorem dX3_mirrorSign_48 : decode cX3_mirrorSign 48 = .ok (.getfield 21, 3) := by decide +kernel
theorem dX3_mirrorSign_51 : decode cX3_mirrorSign 51 = .ok (.iload_n 2, 1) := by decide +kernel
theorem dX3_mirrorSign_52 : decode cX3_mirrorSign 52 = .ok (.aload_n 0, 1) := by decide +kernel
theorem dX3_mirrorSign_53 : decode cX3_mirrorSign 53 = .ok (.getfield 12, 3) := by decide +kernel
theorem dX3_mirrorSign_56 : decode cX3_mirrorSign 56 = .ok (.getfield 91, 3) := by decide +kernel
theorem dX3_mirrorSign_59 : decode cX3_mirrorSign 59 = .ok (.getfield 95, 3) := by decide +kernel
theorem dX3_mirrorSign_62 : decode cX3_mirrorSign 62 = .ok (.invokevirtual 67, 3) := by decide +kernel
theorem dX3_mirrorSign_65 : decode cX3_mirrorSign 65 = .ok (.istore_n 3, 1) := by decide +kernel
theorem dX3_mirrorSign_66 : decode cX3_mirrorSign 66 = .ok (.iload_n 3, 1) := by decide +kernel
theorem dX3_mirrorSign_67 : decode cX3_mirrorSign 67 = .ok (.aload_n 0, 1) := by decide +kernel
theorem dX3_mirrorSign_68 : decode cX3_mirrorSign 68 = .ok (.getfield 21, 3) := by decide +kernel
theorem dX3_mirrorSign_71 : decode cX3_mirrorSign 71 = .ok (.getfield 100, 3) := by decide +kernel
theorem dX3_mirrorSign_74 : decode cX3_mirrorSign 74 = .ok (.iconst 1, 1) := by decide +kernel
theorem dX3_mirrorSign_75 : decode cX3_mirrorSign 75 = .ok (.isub, 1) := by decide +kernel
theorem dX3_mirrorSign_76 : decode cX3_mirrorSign 76 = .ok (.if_icmp .ne 7, 3) := by decide +kernel
theorem dX3_mirrorSign_79 : decode cX3_mirrorSign 79 = .ok (.iconst (-1), 1) := by decide +kernel
theorem dX3_mirrorSign_80 : decode cX3_mirrorSign 80 = .ok (.goto 4, 3) := by decide +kernel
theorem dX3_mirrorSign_83 : decode cX3_mirrorSign 83 = .ok (.iload_n 3, 1) := by decide +kernel
theorem dX3_mirrorSign_84 : decode cX3_mirrorSign 84 = .ok (.ireturn, 1) := by decide +kernel
theorem dX3_blindBits_0 : decode cX3_blindBits 0 = .ok (.iconst 0, 1) := by decide +kernel
theorem dX3_blindBits_1 : decode cX3_blindBits 1 = .ok (.istore_n 2, 1) := by decide +kernel
theorem dX3_blindBits_2 : decode cX3_blindBits 2 = .ok (.iconst 0, 1) := by decide +kernel
theorem dX3_blindBits_3 : decode cX3_blindBits 3 = .ok (.istore_n 3, 1) := by decide +kernel
theorem dX3_blindBits_4 : decode cX3_blindBits 4 = .ok (.iload_n 3, 1) := by decide +kernel
theorem dX3_blindBits_5 : decode cX3_blindBits 5 = .ok (.aload_n 0, 1) := by decide +kernel
theorem dX3_blindBits_6 : decode cX3_blindBits 6 = .ok (.getfield 25, 3) := by decide +kernel
theorem dX3_blindBits_9 : decode cX3_blindBits 9 = .ok (.if_icmp .ge 32, 3) := by decide +kernel
theorem dX3_blindBits_12 : decode cX3_blindBits 12 = .ok (.aload_n 0, 1) := by decide +kernel
theorem dX3_blindBits_13 : decode cX3_blindBits 13 = .ok (.getfield 38, 3) := by decide +kernel
theorem dX3_blindBits_16 : decode cX3_blindBits 16 = .ok (.iload_n 1, 1) := by decide +kernel
theorem dX3_blindBits_17 : decode cX3_blindBits 17 = .ok (.aaload, 1) := by decide +kernel
theorem dX3_blindBits_18 : decode cX3_blindBits 18 = .ok (.iload_n 3, 1) := by decide +kernel
theorem dX3_blindBits_19 : decode cX3_blindBits 19 = .ok (.iaload, 1) := by decide +kernel
theorem dX3_blindBits_20 : decode cX3_blindBits 20 = .ok (.aload_n 0, 1) := by decide +kernel
theorem dX3_blindBits_21 : decode cX3_blindBits 21 = .ok (.getfield 29, 3) := by decide +kernel
theorem dX3_blindBits_24 : decode cX3_blindBits 24 = .ok (.iload_n 1, 1) := by decide +kernel
theorem dX3_blindBits_25 : decode cX3_blindBits 25 = .ok (.iaload, 1) := by decide +kernel
theorem dX3_blindBits_26 : decode cX3_blindBits 26 = .ok (.if_icmp .ne 9, 3) := by decide +kernel
theorem dX3_blindBits_29 : decode cX3_blindBits 29 = .ok (.iload_n 2, 1) := by decide +kernel
theorem dX3_blindBits_30 : decode cX3_blindBits 30 = .ok (.iconst 1, 1) := by decide +kernel
theorem dX3_blindBits_31 : decode cX3_blindBits 31 = .ok (.iload_n 3, 1) := by decide +kernel
theorem dX3_blindBits_32 : decode cX3_blindBits 32 = .ok (.ishl, 1) := by decide +kernel
theorem dX3_blindBits_33 : decode cX3_blindBits 33 = .ok (.ior, 1) := by decide +kernel
theorem dX3_blindBits_34 : decode cX3_blindBits 34 = .ok (.istore_n 2, 1) := by decide +kernel
theorem dX3_blindBits_35 : decode cX3_blindBits 35 = .ok (.iinc 3 1, 3) := by decide +kernel
theorem dX3_blindBits_38 : decode cX3_blindBits 38 = .ok (.goto (-34), 3) := by decide +kernel
theorem dX3_blindBits_41 : decode cX3_blindBits 41 = .ok (.iload_n 2, 1) := by decide +kernel
theorem dX3_blindBits_42 : decode cX3_blindBits 42 = .ok (.ireturn, 1) := by decide +kernel
theorem dX3_meet_0 : decode cX3_meet 0 = .ok (.iconst 0, 1) := by decide +kernel
theorem dX3_meet_1 : decode cX3_meet 1 = .ok (.istore_n 3, 1) := by decide +kernel
theorem dX3_meet_2 : decode cX3_meet 2 = .ok (.iconst 0, 1) := by decide +kernel
theorem dX3_meet_3 : decode cX3_meet 3 = .ok (.istore 4, 2) := by decide +kernel
theorem dX3_meet_5 : decode cX3_meet 5 = .ok (.iload 4, 2) := by decide +kernel
theorem dX3_meet_7 : decode cX3_meet 7 = .ok (.aload_n 0, 1) := by decide +kernel
theorem dX3_meet_8 : decode cX3_meet 8 = .ok (.getfield 25, 3) := by decide +kernel
theorem dX3_meet_11 : decode cX3_meet 11 = .ok (.if_icmp .ge 40, 3) := by decide +kernel
theorem dX3_meet_14 : decode cX3_meet 14 = .ok (.iload_n 3, 1) := by decide +kernel
theorem dX3_meet_15 : decode cX3_meet 15 = .ok (.aload_n 0, 1) := by decide +kernel
theorem dX3_meet_16 : decode cX3_meet 16 = .ok (.getfield 12, 3) := by decide +kernel
theorem dX3_meet_19 : decode cX3_meet 19 = .ok (.getfield 64, 3) := by decide +kernel
theorem dX3_meet_22 : decode cX3_meet 22 = .ok (.iload 4, 2) := by decide +kernel
theorem dX3_meet_24 : decode cX3_meet 24 = .ok (.iaload, 1) := by decide +kernel
theorem dX3_meet_25 : decode cX3_meet 25 = .ok (.aload_n 1, 1) := by decide +kernel
theorem dX3_meet_26 : decode cX3_meet 26 = .ok (.iload 4, 2) := by decide +kernel
theorem dX3_meet_28 : decode cX3_meet 28 = .ok (.iaload, 1) := by decide +kernel
theorem dX3_meet_29 : decode cX3_meet 29 = .ok (.imul, 1) := by decide +kernel
theorem dX3_meet_30 : decode cX3_meet 30 = .ok (.aload_n 2, 1) := by decide +kernel
theorem dX3_meet_31 : decode cX3_meet 31 = .ok (.aload_n 0, 1) := by decide +kernel
theorem dX3_meet_32 : decode cX3_meet 32 = .ok (.getfield 12, 3) := by decide +kernel
theorem dX3_meet_35 : decode cX3_meet 35 = .ok (.getfield 103, 3) := by decide +kernel
theorem dX3_meet_38 : decode cX3_meet 38 = .ok (.iload 4, 2) := by decide +kernel
theorem dX3_meet_40 : decode cX3_meet 40 = .ok (.iaload, 1) := by decide +kernel
theorem dX3_meet_41 : decode cX3_meet 41 = .ok (.iaload, 1) := by decide +kernel
theorem dX3_meet_42 : decode cX3_meet 42 = .ok (.imul, 1) := by decide +kernel
theorem dX3_meet_43 : decode cX3_meet 43 = .ok (.iadd, 1) := by decide +kernel
theorem dX3_meet_44 : decode cX3_meet 44 = .ok (.istore_n 3, 1) := by decide +kernel
theorem dX3_meet_45 : decode cX3_meet 45 = .ok (.iinc 4 1, 3) := by decide +kernel
theorem dX3_meet_48 : decode cX3_meet 48 = .ok (.goto (-43), 3) := by decide +kernel
theorem dX3_meet_51 : decode cX3_meet 51 = .ok (.aload_n 0, 1) := by decide +kernel
theorem dX3_meet_52 : decode cX3_meet 52 = .ok (.getfield 21, 3) := by decide +kernel
theorem dX3_meet_55 : decode cX3_meet 55 = .ok (.iload_n 3, 1) := by decide +kernel
theorem dX3_meet_56 : decode cX3_meet 56 = .ok (.aload_n 0, 1) := by decide +kernel
theorem dX3_meet_57 : decode cX3_meet 57 = .ok (.getfield 12, 3) := by decide +kernel
theorem dX3_meet_60 : decode cX3_meet 60 = .ok (.getfield 91, 3) := by decide +kernel
theorem dX3_meet_63 : decode cX3_meet 63 = .ok (.getfield 95, 3) := by decide +kernel
theorem dX3_meet_66 : decode cX3_meet 66 = .ok (.invokevirtual 67, 3) := by decide +kernel
theorem dX3_meet_69 : decode cX3_meet 69 = .ok (.ireturn, 1) := by decide +kernel
theorem dX3_multiplyRows_0 : decode cX3_multiplyRows 0 = .ok (.iconst 0, 1) := by decide +kernel
theorem dX3_multiplyRows_1 : decode cX3_multiplyRows 1 = .ok (.istore_n 3, 1) := by decide +kernel
theorem dX3_multiplyRows_2 : decode cX3_multiplyRows 2 = .ok (.iload_n 3, 1) := by decide +kernel
theorem dX3_multiplyRows_3 : decode cX3_multiplyRows 3 = .ok (.aload_n 0, 1) := by decide +kernel
theorem dX3_multiplyRows_4 : decode cX3_multiplyRows 4 = .ok (.getfield 25, 3) := by decide +kernel
theorem dX3_multiplyRows_7 : decode cX3_multiplyRows 7 = .ok (.if_icmp .ge 39, 3) := by decide +kernel
theorem dX3_multiplyRows_10 : decode cX3_multiplyRows 10 = .ok (.aload_n 0, 1) := by decide +kernel
theorem dX3_multiplyRows_11 : decode cX3_multiplyRows 11 = .ok (.getfield 41, 3) := by decide +kernel
theorem dX3_multiplyRows_14 : decode cX3_multiplyRows 14 = .ok (.iload_n 3, 1) := by decide +kernel
theorem dX3_multiplyRows_15 : decode cX3_multiplyRows 15 = .ok (.aload_n 0, 1) := by decide +kernel
theorem dX3_multiplyRows_16 : decode cX3_multiplyRows 16 = .ok (.getfield 21, 3) := by decide +kernel
theorem dX3_multiplyRows_19 : decode cX3_multiplyRows 19 = .ok (.aload_n 0, 1) := by decide +kernel
theorem dX3_multiplyRows_20 : decode cX3_multiplyRows 20 = .ok (.getfield 38, 3) := by decide +kernel
theorem dX3_multiplyRows_23 : decode cX3_multiplyRows 23 = .ok (.iload_n 1, 1) := by decide +kernel
theorem dX3_multiplyRows_24 : decode cX3_multiplyRows 24 = .ok (.aaload, 1) := by decide +kernel
theorem dX3_multiplyRows_25 : decode cX3_multiplyRows 25 = .ok (.iload_n 3, 1) := by decide +kernel
theorem dX3_multiplyRows_26 : decode cX3_multiplyRows 26 = .ok (.iaload, 1) := by decide +kernel
theorem dX3_multiplyRows_27 : decode cX3_multiplyRows 27 = .ok (.aload_n 0, 1) := by decide +kernel
theorem dX3_multiplyRows_28 : decode cX3_multiplyRows 28 = .ok (.getfield 38, 3) := by decide +kernel
theorem dX3_multiplyRows_31 : decode cX3_multiplyRows 31 = .ok (.iload_n 2, 1) := by decide +kernel
theorem dX3_multiplyRows_32 : decode cX3_multiplyRows 32 = .ok (.aaload, 1) := by decide +kernel
theorem dX3_multiplyRows_33 : decode cX3_multiplyRows 33 = .ok (.iload_n 3, 1) := by decide +kernel
theorem dX3_multiplyRows_34 : decode cX3_multiplyRows 34 = .ok (.iaload, 1) := by decide +kernel
theorem dX3_multiplyRows_35 : decode cX3_multiplyRows 35 = .ok (.imul, 1) := by decide +kernel
theorem dX3_multiplyRows_36 : decode cX3_multiplyRows 36 = .ok (.invokevirtual 106, 3) := by decide +kernel
theorem dX3_multiplyRows_39 : decode cX3_multiplyRows 39 = .ok (.iastore, 1) := by decide +kernel
theorem dX3_multiplyRows_40 : decode cX3_multiplyRows 40 = .ok (.iinc 3 1, 3) := by decide +kernel
theorem dX3_multiplyRows_43 : decode cX3_multiplyRows 43 = .ok (.goto (-41), 3) := by decide +kernel
theorem dX3_multiplyRows_46 : decode cX3_multiplyRows 46 = .ok (.return_, 1) := by decide +kernel
theorem dX3_rowLike_0 : decode cX3_rowLike 0 = .ok (.iconst 0, 1) := by decide +kernel
theorem dX3_rowLike_1 : decode cX3_rowLike 1 = .ok (.istore_n 2, 1) := by decide +kernel
theorem dX3_rowLike_2 : decode cX3_rowLike 2 = .ok (.iload_n 2, 1) := by decide +kernel
theorem dX3_rowLike_3 : decode cX3_rowLike 3 = .ok (.aload_n 0, 1) := by decide +kernel
theorem dX3_rowLike_4 : decode cX3_rowLike 4 = .ok (.getfield 25, 3) := by decide +kernel
theorem dX3_rowLike_7 : decode cX3_rowLike 7 = .ok (.if_icmp .ge 29, 3) := by decide +kernel
theorem dX3_rowLike_10 : decode cX3_rowLike 10 = .ok (.aload_n 0, 1) := by decide +kernel
theorem dX3_rowLike_11 : decode cX3_rowLike 11 = .ok (.aload_n 0, 1) := by decide +kernel
theorem dX3_rowLike_12 : decode cX3_rowLike 12 = .ok (.getfield 38, 3) := by decide +kernel
theorem dX3_rowLike_15 : decode cX3_rowLike 15 = .ok (.iload_n 2, 1) := by decide +kernel
theorem dX3_rowLike_16 : decode cX3_rowLike 16 = .ok (.aaload, 1) := by decide +kernel
theorem dX3_rowLike_17 : decode cX3_rowLike 17 = .ok (.aload_n 1, 1) := by decide +kernel
theorem dX3_rowLike_18 : decode cX3_rowLike 18 = .ok (.invokevirtual 110, 3) := by decide +kernel
theorem dX3_rowLike_21 : decode cX3_rowLike 21 = .ok (.aload_n 0, 1) := by decide +kernel
theorem dX3_rowLike_22 : decode cX3_rowLike 22 = .ok (.getfield 25, 3) := by decide +kernel
theorem dX3_rowLike_25 : decode cX3_rowLike 25 = .ok (.if_icmp .ne 5, 3) := by decide +kernel
theorem dX3_rowLike_28 : decode cX3_rowLike 28 = .ok (.iload_n 2, 1) := by decide +kernel
theorem dX3_rowLike_29 : decode cX3_rowLike 29 = .ok (.ireturn, 1) := by decide +kernel
theorem dX3_rowLike_30 : decode cX3_rowLike 30 = .ok (.iinc 2 1, 3) := by decide +kernel
theorem dX3_rowLike_33 : decode cX3_rowLike 33 = .ok (.goto (-31), 3) := by decide +kernel
theorem dX3_rowLike_36 : decode cX3_rowLike 36 = .ok (.iconst (-1), 1) := by decide +kernel
theorem dX3_rowLike_37 : decode cX3_rowLike 37 = .ok (.ireturn, 1) := by decide +kernel
theorem dX3_degreeOf_0 : decode cX3_degreeOf 0 = .ok (.iconst 0, 1) := by decide +kernel
theorem dX3_degreeOf_1 : decode cX3_degreeOf 1 = .ok (.istore_n 2, 1) := by decide +kernel
theorem dX3_degreeOf_2 : decode cX3_degreeOf 2 = .ok (.iconst 0, 1) := by decide +kernel
theorem dX3_degreeOf_3 : decode cX3_degreeOf 3 = .ok (.istore_n 3, 1) := by decide +kernel
theorem dX3_degreeOf_4 : decode cX3_degreeOf 4 = .ok (.iload_n 3, 1) := by decide +kernel
theorem dX3_degreeOf_5 : decode cX3_degreeOf 5 = .ok (.aload_n 0, 1) := by decide +kernel
theorem dX3_degreeOf_6 : decode cX3_degreeOf 6 = .ok (.getfield 25, 3) := by decide +kernel
theorem dX3_degreeOf_9 : decode cX3_degreeOf 9 = .ok (.if_icmp .ge 43, 3) := by decide +kernel
theorem dX3_degreeOf_12 : decode cX3_degreeOf 12 = .ok (.iload_n 2, 1) := by decide +kernel
theorem dX3_degreeOf_13 : decode cX3_degreeOf 13 = .ok (.aload_n 0, 1) := by decide +kernel
theorem dX3_degreeOf_14 : decode cX3_degreeOf 14 = .ok (.getfield 21, 3) := by decide +kernel
theorem dX3_degreeOf_17 : decode cX3_degreeOf 17 = .ok (.aload_n 1, 1) := by decide +kernel
theorem dX3_degreeOf_18 : decode cX3_degreeOf 18 = .ok (.iload_n 3, 1) := by decide +kernel
theorem dX3_degreeOf_19 : decode cX3_degreeOf 19 = .ok (.iaload, 1) := by decide +kernel
theorem dX3_degreeOf_20 : decode cX3_degreeOf 20 = .ok (.aload_n 1, 1) := by decide +kernel
theorem dX3_degreeOf_21 : decode cX3_degreeOf 21 = .ok (.aload_n 0, 1) := by decide +kernel
theorem dX3_degreeOf_22 : decode cX3_degreeOf 22 = .ok (.getfield 12, 3) := by decide +kernel
theorem dX3_degreeOf_25 : decode cX3_degreeOf 25 = .ok (.getfield 103, 3) := by decide +kernel
theorem dX3_degreeOf_28 : decode cX3_degreeOf 28 = .ok (.iload_n 3, 1) := by decide +kernel
theorem dX3_degreeOf_29 : decode cX3_degreeOf 29 = .ok (.iaload, 1) := by decide +kernel
theorem dX3_degreeOf_30 : decode cX3_degreeOf 30 = .ok (.iaload, 1) := by decide +kernel
theorem dX3_degreeOf_31 : decode cX3_degreeOf 31 = .ok (.imul, 1) := by decide +kernel
theorem dX3_degreeOf_32 : decode cX3_degreeOf 32 = .ok (.aload_n 0, 1) := by decide +kernel
theorem dX3_degreeOf_33 : decode cX3_degreeOf 33 = .ok (.getfield 12, 3) := by decide +kernel
theorem dX3_degreeOf_36 : decode cX3_degreeOf 36 = .ok (.getfield 64, 3) := by decide +kernel
theorem dX3_degreeOf_39 : decode cX3_degreeOf 39 = .ok (.iload_n 3, 1) := by decide +kernel
theorem dX3_degreeOf_40 : decode cX3_degreeOf 40 = .ok (.iaload, 1) := by decide +kernel
theorem dX3_degreeOf_41 : decode cX3_degreeOf 41 = .ok (.invokevirtual 67, 3) := by decide +kernel
theorem dX3_degreeOf_44 : decode cX3_degreeOf 44 = .ok (.iadd, 1) := by decide +kernel
theorem dX3_degreeOf_45 : decode cX3_degreeOf 45 = .ok (.istore_n 2, 1) := by decide +kernel
theorem dX3_degreeOf_46 : decode cX3_degreeOf 46 = .ok (.iinc 3 1, 3) := by decide +kernel
theorem dX3_degreeOf_49 : decode cX3_degreeOf 49 = .ok (.goto (-45), 3) := by decide +kernel
theorem dX3_degreeOf_52 : decode cX3_degreeOf 52 = .ok (.aload_n 0, 1) := by decide +kernel
theorem dX3_degreeOf_53 : decode cX3_degreeOf 53 = .ok (.getfield 12, 3) := by decide +kernel
theorem dX3_degreeOf_56 : decode cX3_degreeOf 56 = .ok (.getfield 91, 3) := by decide +kernel
theorem dX3_degreeOf_59 : decode cX3_degreeOf 59 = .ok (.getfield 95, 3) := by decide +kernel
theorem dX3_degreeOf_62 : decode cX3_degreeOf 62 = .ok (.istore_n 3, 1) := by decide +kernel
theorem dX3_degreeOf_63 : decode cX3_degreeOf 63 = .ok (.iconst 1, 1) := by decide +kernel
theorem dX3_degreeOf_64 : decode cX3_degreeOf 64 = .ok (.istore 4, 2) := by decide +kernel
theorem dX3_degreeOf_66 : decode cX3_degreeOf 66 = .ok (.iload 4, 2) := by decide +kernel
theorem dX3_degreeOf_68 : decode cX3_degreeOf 68 = .ok (.iload 4, 2) := by decide +kernel
theorem dX3_degreeOf_70 : decode cX3_degreeOf 70 = .ok (.imul, 1) := by decide +kernel
theorem dX3_degreeOf_71 : decode cX3_degreeOf 71 = .ok (.iload_n 3, 1) := by decide +kernel
theorem dX3_degreeOf_72 : decode cX3_degreeOf 72 = .ok (.if_icmp .gt 37, 3) := by decide +kernel
theorem dX3_degreeOf_75 : decode cX3_degreeOf 75 = .ok (.aload_n 0, 1) := by decide +kernel
theorem dX3_degreeOf_76 : decode cX3_degreeOf 76 = .ok (.getfield 21, 3) := by decide +kernel
theorem dX3_degreeOf_79 : decode cX3_degreeOf 79 = .ok (.iload 4, 2) := by decide +kernel
theorem dX3_degreeOf_81 : decode cX3_degreeOf 81 = .ok (.iload 4, 2) := by decide +kernel
theorem dX3_degreeOf_83 : decode cX3_degreeOf 83 = .ok (.imul, 1) := by decide +kernel
theorem dX3_degreeOf_84 : decode cX3_degreeOf 84 = .ok (.iload_n 2, 1) := by decide +kernel
theorem dX3_degreeOf_85 : decode cX3_degreeOf 85 = .ok (.imul, 1) := by decide +kernel
theorem dX3_degreeOf_86 : decode cX3_degreeOf 86 = .ok (.invokevirtual 106, 3) := by decide +kernel
theorem dX3_degreeOf_89 : decode cX3_degreeOf 89 = .ok (.aload_n 0, 1) := by decide +kernel
theorem dX3_degreeOf_90 : decode cX3_degreeOf 90 = .ok (.getfield 21, 3) := by decide +kernel
theorem dX3_degreeOf_93 : decode cX3_degreeOf 93 = .ok (.iload_n 3, 1) := by decide +kernel
theorem dX3_degreeOf_94 : decode cX3_degreeOf 94 = .ok (.invokevirtual 106, 3) := by decide +kernel
theorem dX3_degreeOf_97 : decode cX3_degreeOf 97 = .ok (.if_icmp .ne 6, 3) := by decide +kernel
theorem dX3_degreeOf_100 : decode cX3_degreeOf 100 = .ok (.iload 4, 2) := by decide +kernel
theorem dX3_degreeOf_102 : decode cX3_degreeOf 102 = .ok (.ireturn, 1) := by decide +kernel
theorem dX3_degreeOf_103 : decode cX3_degreeOf 103 = .ok (.iinc 4 1, 3) := by decide +kernel
theorem dX3_degreeOf_106 : decode cX3_degreeOf 106 = .ok (.goto (-40), 3) := by decide +kernel
theorem dX3_degreeOf_109 : decode cX3_degreeOf 109 = .ok (.iconst 1, 1) := by decide +kernel
theorem dX3_degreeOf_110 : decode cX3_degreeOf 110 = .ok (.ireturn, 1) := by decide +kernel
theorem dX3_putInOrder_0 : decode cX3_putInOrder 0 = .ok (.iconst 1, 1) := by decide +kernel
theorem dX3_putInOrder_1 : decode cX3_putInOrder 1 = .ok (.istore_n 1, 1) := by decide +kernel
theorem dX3_putInOrder_2 : decode cX3_putInOrder 2 = .ok (.iload_n 1, 1) := by decide +kernel
theorem dX3_putInOrder_3 : decode cX3_putInOrder 3 = .ok (.aload_n 0, 1) := by decide +kernel
theorem dX3_putInOrder_4 : decode cX3_putInOrder 4 = .ok (.getfield 25, 3) := by decide +kernel
theorem dX3_putInOrder_7 : decode cX3_putInOrder 7 = .ok (.if_icmp .ge 40, 3) := by decide +kernel
theorem dX3_putInOrder_10 : decode cX3_putInOrder 10 = .ok (.iload_n 1, 1) := by decide +kernel
theorem dX3_putInOrder_11 : decode cX3_putInOrder 11 = .ok (.istore_n 2, 1) := by decide +kernel
theorem dX3_putInOrder_12 : decode cX3_putInOrder 12 = .ok (.iload_n 2, 1) := by decide +kernel
theorem dX3_putInOrder_13 : decode cX3_putInOrder 13 = .ok (.ifCond .le 28, 3) := by decide +kernel
theorem dX3_putInOrder_16 : decode cX3_putInOrder 16 = .ok (.aload_n 0, 1) := by decide +kernel
theorem dX3_putInOrder_17 : decode cX3_putInOrder 17 = .ok (.iload_n 2, 1) := by decide +kernel
theorem dX3_putInOrder_18 : decode cX3_putInOrder 18 = .ok (.iload_n 2, 1) := by decide +kernel
theorem dX3_putInOrder_19 : decode cX3_putInOrder 19 = .ok (.iconst 1, 1) := by decide +kernel
theorem dX3_putInOrder_20 : decode cX3_putInOrder 20 = .ok (.isub, 1) := by decide +kernel
theorem dX3_putInOrder_21 : decode cX3_putInOrder 21 = .ok (.invokevirtual 114, 3) := by decide +kernel
theorem dX3_putInOrder_24 : decode cX3_putInOrder 24 = .ok (.ifCond .eq 17, 3) := by decide +kernel
theorem dX3_putInOrder_27 : decode cX3_putInOrder 27 = .ok (.aload_n 0, 1) := by decide +kernel
theorem dX3_putInOrder_28 : decode cX3_putInOrder 28 = .ok (.iload_n 2, 1) := by decide +kernel
theorem dX3_putInOrder_29 : decode cX3_putInOrder 29 = .ok (.iload_n 2, 1) := by decide +kernel
theorem dX3_putInOrder_30 : decode cX3_putInOrder 30 = .ok (.iconst 1, 1) := by decide +kernel
theorem dX3_putInOrder_31 : decode cX3_putInOrder 31 = .ok (.isub, 1) := by decide +kernel
theorem dX3_putInOrder_32 : decode cX3_putInOrder 32 = .ok (.invokevirtual 118, 3) := by decide +kernel
theorem dX3_putInOrder_35 : decode cX3_putInOrder 35 = .ok (.iinc 2 (-1), 3) := by decide +kernel
theorem dX3_putInOrder_38 : decode cX3_putInOrder 38 = .ok (.goto (-26), 3) := by decide +kernel
theorem dX3_putInOrder_41 : decode cX3_putInOrder 41 = .ok (.iinc 1 1, 3) := by decide +kernel
theorem dX3_putInOrder_44 : decode cX3_putInOrder 44 = .ok (.goto (-42), 3) := by decide +kernel
theorem dX3_putInOrder_47 : decode cX3_putInOrder 47 = .ok (.return_, 1) := by decide +kernel
theorem dX3_comesBefore_0 : decode cX3_comesBefore 0 = .ok (.aload_n 0, 1) := by decide +kernel
theorem dX3_comesBefore_1 : decode cX3_comesBefore 1 = .ok (.getfield 29, 3) := by decide +kernel
theorem dX3_comesBefore_4 : decode cX3_comesBefore 4 = .ok (.iload_n 1, 1) := by decide +kernel
theorem dX3_comesBefore_5 : decode cX3_comesBefore 5 = .ok (.iaload, 1) := by decide +kernel
theorem dX3_comesBefore_6 : decode cX3_comesBefore 6 = .ok (.aload_n 0, 1) := by decide +kernel
theorem dX3_comesBefore_7 : decode cX3_comesBefore 7 = .ok (.getfield 29, 3) := by decide +kernel
theorem dX3_comesBefore_10 : decode cX3_comesBefore 10 = .ok (.iload_n 2, 1) := by decide +kernel
theorem dX3_comesBefore_11 : decode cX3_comesBefore 11 = .ok (.iaload, 1) := by decide +kernel
theorem dX3_comesBefore_12 : decode cX3_comesBefore 12 = .ok (.if_icmp .eq 24, 3) := by decide +kernel
theorem dX3_comesBefore_15 : decode cX3_comesBefore 15 = .ok (.aload_n 0, 1) := by decide +kernel
theorem dX3_comesBefore_16 : decode cX3_comesBefore 16 = .ok (.getfield 29, 3) := by decide +kernel
theorem dX3_comesBefore_19 : decode cX3_comesBefore 19 = .ok (.iload_n 1, 1) := by decide +kernel
theorem dX3_comesBefore_20 : decode cX3_comesBefore 20 = .ok (.iaload, 1) := by decide +kernel
theorem dX3_comesBefore_21 : decode cX3_comesBefore 21 = .ok (.aload_n 0, 1) := by decide +kernel
theorem dX3_comesBefore_22 : decode cX3_comesBefore 22 = .ok (.getfield 29, 3) := by decide +kernel
theorem dX3_comesBefore_25 : decode cX3_comesBefore 25 = .ok (.iload_n 2, 1) := by decide +kernel
theorem dX3_comesBefore_26 : decode cX3_comesBefore 26 = .ok (.iaload, 1) := by decide +kernel
theorem dX3_comesBefore_27 : decode cX3_comesBefore 27 = .ok (.if_icmp .ge 7, 3) := by decide +kernel
theorem dX3_comesBefore_30 : decode cX3_comesBefore 30 = .ok (.iconst 1, 1) := by decide +kernel
theorem dX3_comesBefore_31 : decode cX3_comesBefore 31 = .ok (.goto 4, 3) := by decide +kernel
theorem dX3_comesBefore_34 : decode cX3_comesBefore 34 = .ok (.iconst 0, 1) := by decide +kernel
theorem dX3_comesBefore_35 : decode cX3_comesBefore 35 = .ok (.ireturn, 1) := by decide +kernel
theorem dX3_comesBefore_36 : decode cX3_comesBefore 36 = .ok (.aload_n 0, 1) := by decide +kernel
theorem dX3_comesBefore_37 : decode cX3_comesBefore 37 = .ok (.aload_n 0, 1) := by decide +kernel
theorem dX3_comesBefore_38 : decode cX3_comesBefore 38 = .ok (.getfield 38, 3) := by decide +kernel
theorem dX3_comesBefore_41 : decode cX3_comesBefore 41 = .ok (.iload_n 1, 1) := by decide +kernel
theorem dX3_comesBefore_42 : decode cX3_comesBefore 42 = .ok (.aaload, 1) := by decide +kernel
theorem dX3_comesBefore_43 : decode cX3_comesBefore 43 = .ok (.aload_n 0, 1) := by decide +kernel
theorem dX3_comesBefore_44 : decode cX3_comesBefore 44 = .ok (.getfield 38, 3) := by decide +kernel
theorem dX3_comesBefore_47 : decode cX3_comesBefore 47 = .ok (.iload_n 2, 1) := by decide +kernel
theorem dX3_comesBefore_48 : decode cX3_comesBefore 48 = .ok (.aaload, 1) := by decide +kernel
theorem dX3_comesBefore_49 : decode cX3_comesBefore 49 = .ok (.invokevirtual 110, 3) := by decide +kernel
theorem dX3_comesBefore_52 : decode cX3_comesBefore 52 = .ok (.istore_n 3, 1) := by decide +kernel
theorem dX3_comesBefore_53 : decode cX3_comesBefore 53 = .ok (.iload_n 3, 1) := by decide +kernel
theorem dX3_comesBefore_54 : decode cX3_comesBefore 54 = .ok (.aload_n 0, 1) := by decide +kernel
theorem dX3_comesBefore_55 : decode cX3_comesBefore 55 = .ok (.getfield 25, 3) := by decide +kernel
theorem dX3_comesBefore_58 : decode cX3_comesBefore 58 = .ok (.if_icmp .ge 26, 3) := by decide +kernel
theorem dX3_comesBefore_61 : decode cX3_comesBefore 61 = .ok (.aload_n 0, 1) := by decide +kernel
theorem dX3_comesBefore_62 : decode cX3_comesBefore 62 = .ok (.getfield 38, 3) := by decide +kernel
theorem dX3_comesBefore_65 : decode cX3_comesBefore 65 = .ok (.iload_n 1, 1) := by decide +kernel
theorem dX3_comesBefore_66 : decode cX3_comesBefore 66 = .ok (.aaload, 1) := by decide +kernel
theorem dX3_comesBefore_67 : decode cX3_comesBefore 67 = .ok (.iload_n 3, 1) := by decide +kernel
theorem dX3_comesBefore_68 : decode cX3_comesBefore 68 = .ok (.iaload, 1) := by decide +kernel
theorem dX3_comesBefore_69 : decode cX3_comesBefore 69 = .ok (.aload_n 0, 1) := by decide +kernel
theorem dX3_comesBefore_70 : decode cX3_comesBefore 70 = .ok (.getfield 38, 3) := by decide +kernel
theorem dX3_comesBefore_73 : decode cX3_comesBefore 73 = .ok (.iload_n 2, 1) := by decide +kernel
theorem dX3_comesBefore_74 : decode cX3_comesBefore 74 = .ok (.aaload, 1) := by decide +kernel
theorem dX3_comesBefore_75 : decode cX3_comesBefore 75 = .ok (.iload_n 3, 1) := by decide +kernel
theorem dX3_comesBefore_76 : decode cX3_comesBefore 76 = .ok (.iaload, 1) := by decide +kernel
theorem dX3_comesBefore_77 : decode cX3_comesBefore 77 = .ok (.if_icmp .ge 7, 3) := by decide +kernel
theorem dX3_comesBefore_80 : decode cX3_comesBefore 80 = .ok (.iconst 1, 1) := by decide +kernel
theorem dX3_comesBefore_81 : decode cX3_comesBefore 81 = .ok (.goto 4, 3) := by decide +kernel
theorem dX3_comesBefore_84 : decode cX3_comesBefore 84 = .ok (.iconst 0, 1) := by decide +kernel
theorem dX3_comesBefore_85 : decode cX3_comesBefore 85 = .ok (.ireturn, 1) := by decide +kernel
theorem dX3_differAt_0 : decode cX3_differAt 0 = .ok (.iconst 0, 1) := by decide +kernel
theorem dX3_differAt_1 : decode cX3_differAt 1 = .ok (.istore_n 3, 1) := by decide +kernel
theorem dX3_differAt_2 : decode cX3_differAt 2 = .ok (.iload_n 3, 1) := by decide +kernel
theorem dX3_differAt_3 : decode cX3_differAt 3 = .ok (.aload_n 0, 1) := by decide +kernel
theorem dX3_differAt_4 : decode cX3_differAt 4 = .ok (.getfield 25, 3) := by decide +kernel
theorem dX3_differAt_7 : decode cX3_differAt 7 = .ok (.if_icmp .ge 18, 3) := by decide +kernel
theorem dX3_differAt_10 : decode cX3_differAt 10 = .ok (.aload_n 1, 1) := by decide +kernel
theorem dX3_differAt_11 : decode cX3_differAt 11 = .ok (.iload_n 3, 1) := by decide +kernel
theorem dX3_differAt_12 : decode cX3_differAt 12 = .ok (.iaload, 1) := by decide +kernel
theorem dX3_differAt_13 : decode cX3_differAt 13 = .ok (.aload_n 2, 1) := by decide +kernel
theorem dX3_differAt_14 : decode cX3_differAt 14 = .ok (.iload_n 3, 1) := by decide +kernel
theorem dX3_differAt_15 : decode cX3_differAt 15 = .ok (.iaload, 1) := by decide +kernel
theorem dX3_differAt_16 : decode cX3_differAt 16 = .ok (.if_icmp .ne 9, 3) := by decide +kernel
theorem dX3_differAt_19 : decode cX3_differAt 19 = .ok (.iinc 3 1, 3) := by decide +kernel
theorem dX3_differAt_22 : decode cX3_differAt 22 = .ok (.goto (-20), 3) := by decide +kernel
theorem dX3_differAt_25 : decode cX3_differAt 25 = .ok (.iload_n 3, 1) := by decide +kernel
theorem dX3_differAt_26 : decode cX3_differAt 26 = .ok (.ireturn, 1) := by decide +kernel
theorem dX3_exchange_0 : decode cX3_exchange 0 = .ok (.aload_n 0, 1) := by decide +kernel
theorem dX3_exchange_1 : decode cX3_exchange 1 = .ok (.getfield 29, 3) := by decide +kernel
theorem dX3_exchange_4 : decode cX3_exchange 4 = .ok (.iload_n 1, 1) := by decide +kernel
theorem dX3_exchange_5 : decode cX3_exchange 5 = .ok (.iaload, 1) := by decide +kernel
theorem dX3_exchange_6 : decode cX3_exchange 6 = .ok (.istore_n 3, 1) := by decide +kernel
theorem dX3_exchange_7 : decode cX3_exchange 7 = .ok (.aload_n 0, 1) := by decide +kernel
theorem dX3_exchange_8 : decode cX3_exchange 8 = .ok (.getfield 29, 3) := by decide +kernel
theorem dX3_exchange_11 : decode cX3_exchange 11 = .ok (.iload_n 1, 1) := by decide +kernel
theorem dX3_exchange_12 : decode cX3_exchange 12 = .ok (.aload_n 0, 1) := by decide +kernel
theorem dX3_exchange_13 : decode cX3_exchange 13 = .ok (.getfield 29, 3) := by decide +kernel
theorem dX3_exchange_16 : decode cX3_exchange 16 = .ok (.iload_n 2, 1) := by decide +kernel
theorem dX3_exchange_17 : decode cX3_exchange 17 = .ok (.iaload, 1) := by decide +kernel
theorem dX3_exchange_18 : decode cX3_exchange 18 = .ok (.iastore, 1) := by decide +kernel
theorem dX3_exchange_19 : decode cX3_exchange 19 = .ok (.aload_n 0, 1) := by decide +kernel
theorem dX3_exchange_20 : decode cX3_exchange 20 = .ok (.getfield 29, 3) := by decide +kernel
theorem dX3_exchange_23 : decode cX3_exchange 23 = .ok (.iload_n 2, 1) := by decide +kernel
theorem dX3_exchange_24 : decode cX3_exchange 24 = .ok (.iload_n 3, 1) := by decide +kernel
theorem dX3_exchange_25 : decode cX3_exchange 25 = .ok (.iastore, 1) := by decide +kernel
theorem dX3_exchange_26 : decode cX3_exchange 26 = .ok (.aload_n 0, 1) := by decide +kernel
theorem dX3_exchange_27 : decode cX3_exchange 27 = .ok (.getfield 38, 3) := by decide +kernel
theorem dX3_exchange_30 : decode cX3_exchange 30 = .ok (.iload_n 1, 1) := by decide +kernel
theorem dX3_exchange_31 : decode cX3_exchange 31 = .ok (.aaload, 1) := by decide +kernel
theorem dX3_exchange_32 : decode cX3_exchange 32 = .ok (.astore 4, 2) := by decide +kernel
theorem dX3_exchange_34 : decode cX3_exchange 34 = .ok (.aload_n 0, 1) := by decide +kernel
theorem dX3_exchange_35 : decode cX3_exchange 35 = .ok (.getfield 38, 3) := by decide +kernel
theorem dX3_exchange_38 : decode cX3_exchange 38 = .ok (.iload_n 1, 1) := by decide +kernel
theorem dX3_exchange_39 : decode cX3_exchange 39 = .ok (.aload_n 0, 1) := by decide +kernel
theorem dX3_exchange_40 : decode cX3_exchange 40 = .ok (.getfield 38, 3) := by decide +kernel
theorem dX3_exchange_43 : decode cX3_exchange 43 = .ok (.iload_n 2, 1) := by decide +kernel
theorem dX3_exchange_44 : decode cX3_exchange 44 = .ok (.aaload, 1) := by decide +kernel
theorem dX3_exchange_45 : decode cX3_exchange 45 = .ok (.aastore, 1) := by decide +kernel
theorem dX3_exchange_46 : decode cX3_exchange 46 = .ok (.aload_n 0, 1) := by decide +kernel
theorem dX3_exchange_47 : decode cX3_exchange 47 = .ok (.getfield 38, 3) := by decide +kernel
theorem dX3_exchange_50 : decode cX3_exchange 50 = .ok (.iload_n 2, 1) := by decide +kernel
theorem dX3_exchange_51 : decode cX3_exchange 51 = .ok (.aload 4, 2) := by decide +kernel
theorem dX3_exchange_53 : decode cX3_exchange 53 = .ok (.aastore, 1) := by decide +kernel
theorem dX3_exchange_54 : decode cX3_exchange 54 = .ok (.aload_n 0, 1) := by decide +kernel
theorem dX3_exchange_55 : decode cX3_exchange 55 = .ok (.getfield 35, 3) := by decide +kernel
theorem dX3_exchange_58 : decode cX3_exchange 58 = .ok (.iload_n 1, 1) := by decide +kernel
theorem dX3_exchange_59 : decode cX3_exchange 59 = .ok (.aaload, 1) := by decide +kernel
theorem dX3_exchange_60 : decode cX3_exchange 60 = .ok (.astore 4, 2) := by decide +kernel
theorem dX3_exchange_62 : decode cX3_exchange 62 = .ok (.aload_n 0, 1) := by decide +kernel
theorem dX3_exchange_63 : decode cX3_exchange 63 = .ok (.getfield 35, 3) := by decide +kernel
theorem dX3_exchange_66 : decode cX3_exchange 66 = .ok (.iload_n 1, 1) := by decide +kernel
theorem dX3_exchange_67 : decode cX3_exchange 67 = .ok (.aload_n 0, 1) := by decide +kernel
theorem dX3_exchange_68 : decode cX3_exchange 68 = .ok (.getfield 35, 3) := by decide +kernel
theorem dX3_exchange_71 : decode cX3_exchange 71 = .ok (.iload_n 2, 1) := by decide +kernel
theorem dX3_exchange_72 : decode cX3_exchange 72 = .ok (.aaload, 1) := by decide +kernel
theorem dX3_exchange_73 : decode cX3_exchange 73 = .ok (.aastore, 1) := by decide +kernel
theorem dX3_exchange_74 : decode cX3_exchange 74 = .ok (.aload_n 0, 1) := by decide +kernel
theorem dX3_exchange_75 : decode cX3_exchange 75 = .ok (.getfield 35, 3) := by decide +kernel
theorem dX3_exchange_78 : decode cX3_exchange 78 = .ok (.iload_n 2, 1) := by decide +kernel
theorem dX3_exchange_79 : decode cX3_exchange 79 = .ok (.aload 4, 2) := by decide +kernel
theorem dX3_exchange_81 : decode cX3_exchange 81 = .ok (.aastore, 1) := by decide +kernel
theorem dX3_exchange_82 : decode cX3_exchange 82 = .ok (.return_, 1) := by decide +kernel
