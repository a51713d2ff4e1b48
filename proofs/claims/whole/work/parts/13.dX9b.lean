theorem dX9_by_10 : decode cX9_by 10 = .ok (.iload_n 1, 1) := by decide +kernel
theorem dX9_by_11 : decode cX9_by 11 = .ok (.invokevirtual 188, 3) := by decide +kernel
theorem dX9_by_14 : decode cX9_by 14 = .ok (.if_icmp .eq 9, 3) := by decide +kernel
theorem dX9_by_17 : decode cX9_by 17 = .ok (.iinc 3 1, 3) := by decide +kernel
theorem dX9_by_20 : decode cX9_by 20 = .ok (.goto (-18), 3) := by decide +kernel
theorem dX9_by_23 : decode cX9_by 23 = .ok (.iload_n 3, 1) := by decide +kernel
theorem dX9_by_24 : decode cX9_by 24 = .ok (.ireturn, 1) := by decide +kernel
theorem dX9_layGrid_0 : decode cX9_layGrid 0 = .ok (.iconst 0, 1) := by decide +kernel
theorem dX9_layGrid_1 : decode cX9_layGrid 1 = .ok (.istore 4, 2) := by decide +kernel
theorem dX9_layGrid_3 : decode cX9_layGrid 3 = .ok (.iload 4, 2) := by decide +kernel
theorem dX9_layGrid_5 : decode cX9_layGrid 5 = .ok (.aload_n 0, 1) := by decide +kernel
theorem dX9_layGrid_6 : decode cX9_layGrid 6 = .ok (.getfield 143, 3) := by decide +kernel
theorem dX9_layGrid_9 : decode cX9_layGrid 9 = .ok (.if_icmp .ge 127, 3) := by decide +kernel
theorem dX9_layGrid_12 : decode cX9_layGrid 12 = .ok (.iconst 0, 1) := by decide +kernel
theorem dX9_layGrid_13 : decode cX9_layGrid 13 = .ok (.istore 5, 2) := by decide +kernel
theorem dX9_layGrid_15 : decode cX9_layGrid 15 = .ok (.iload 5, 2) := by decide +kernel
theorem dX9_layGrid_17 : decode cX9_layGrid 17 = .ok (.aload_n 0, 1) := by decide +kernel
theorem dX9_layGrid_18 : decode cX9_layGrid 18 = .ok (.getfield 46, 3) := by decide +kernel
theorem dX9_layGrid_21 : decode cX9_layGrid 21 = .ok (.iload_n 1, 1) := by decide +kernel
theorem dX9_layGrid_22 : decode cX9_layGrid 22 = .ok (.iaload, 1) := by decide +kernel
theorem dX9_layGrid_23 : decode cX9_layGrid 23 = .ok (.if_icmp .ge 107, 3) := by decide +kernel
theorem dX9_layGrid_26 : decode cX9_layGrid 26 = .ok (.bipush 64, 2) := by decide +kernel
theorem dX9_layGrid_28 : decode cX9_layGrid 28 = .ok (.iload_n 1, 1) := by decide +kernel
theorem dX9_layGrid_29 : decode cX9_layGrid 29 = .ok (.imul, 1) := by decide +kernel
theorem dX9_layGrid_30 : decode cX9_layGrid 30 = .ok (.bipush 8, 2) := by decide +kernel
theorem dX9_layGrid_32 : decode cX9_layGrid 32 = .ok (.iload 5, 2) := by decide +kernel
theorem dX9_layGrid_34 : decode cX9_layGrid 34 = .ok (.imul, 1) := by decide +kernel
theorem dX9_layGrid_35 : decode cX9_layGrid 35 = .ok (.iadd, 1) := by decide +kernel
theorem dX9_layGrid_36 : decode cX9_layGrid 36 = .ok (.istore 6, 2) := by decide +kernel
theorem dX9_layGrid_38 : decode cX9_layGrid 38 = .ok (.iload_n 3, 1) := by decide +kernel
theorem dX9_layGrid_39 : decode cX9_layGrid 39 = .ok (.ineg, 1) := by decide +kernel
theorem dX9_layGrid_40 : decode cX9_layGrid 40 = .ok (.aload_n 0, 1) := by decide +kernel
theorem dX9_layGrid_41 : decode cX9_layGrid 41 = .ok (.getfield 49, 3) := by decide +kernel
theorem dX9_layGrid_44 : decode cX9_layGrid 44 = .ok (.iload 6, 2) := by decide +kernel
theorem dX9_layGrid_46 : decode cX9_layGrid 46 = .ok (.iload 4, 2) := by decide +kernel
theorem dX9_layGrid_48 : decode cX9_layGrid 48 = .ok (.iadd, 1) := by decide +kernel
theorem dX9_layGrid_49 : decode cX9_layGrid 49 = .ok (.iaload, 1) := by decide +kernel
theorem dX9_layGrid_50 : decode cX9_layGrid 50 = .ok (.imul, 1) := by decide +kernel
theorem dX9_layGrid_51 : decode cX9_layGrid 51 = .ok (.istore 7, 2) := by decide +kernel
theorem dX9_layGrid_53 : decode cX9_layGrid 53 = .ok (.iconst 0, 1) := by decide +kernel
theorem dX9_layGrid_54 : decode cX9_layGrid 54 = .ok (.istore 8, 2) := by decide +kernel
theorem dX9_layGrid_56 : decode cX9_layGrid 56 = .ok (.iload 8, 2) := by decide +kernel
theorem dX9_layGrid_58 : decode cX9_layGrid 58 = .ok (.aload_n 0, 1) := by decide +kernel
theorem dX9_layGrid_59 : decode cX9_layGrid 59 = .ok (.getfield 143, 3) := by decide +kernel
theorem dX9_layGrid_62 : decode cX9_layGrid 62 = .ok (.if_icmp .ge 43, 3) := by decide +kernel
theorem dX9_layGrid_65 : decode cX9_layGrid 65 = .ok (.iload 7, 2) := by decide +kernel
theorem dX9_layGrid_67 : decode cX9_layGrid 67 = .ok (.aload_n 0, 1) := by decide +kernel
theorem dX9_layGrid_68 : decode cX9_layGrid 68 = .ok (.getfield 43, 3) := by decide +kernel
theorem dX9_layGrid_71 : decode cX9_layGrid 71 = .ok (.bipush 64, 2) := by decide +kernel
theorem dX9_layGrid_73 : decode cX9_layGrid 73 = .ok (.iload_n 2, 1) := by decide +kernel
theorem dX9_layGrid_74 : decode cX9_layGrid 74 = .ok (.imul, 1) := by decide +kernel
theorem dX9_layGrid_75 : decode cX9_layGrid 75 = .ok (.bipush 8, 2) := by decide +kernel
theorem dX9_layGrid_77 : decode cX9_layGrid 77 = .ok (.iload 4, 2) := by decide +kernel
theorem dX9_layGrid_79 : decode cX9_layGrid 79 = .ok (.imul, 1) := by decide +kernel
theorem dX9_layGrid_80 : decode cX9_layGrid 80 = .ok (.iadd, 1) := by decide +kernel
theorem dX9_layGrid_81 : decode cX9_layGrid 81 = .ok (.iload 8, 2) := by decide +kernel
theorem dX9_layGrid_83 : decode cX9_layGrid 83 = .ok (.iadd, 1) := by decide +kernel
theorem dX9_layGrid_84 : decode cX9_layGrid 84 = .ok (.iaload, 1) := by decide +kernel
theorem dX9_layGrid_85 : decode cX9_layGrid 85 = .ok (.aload_n 0, 1) := by decide +kernel
theorem dX9_layGrid_86 : decode cX9_layGrid 86 = .ok (.getfield 49, 3) := by decide +kernel
theorem dX9_layGrid_89 : decode cX9_layGrid 89 = .ok (.iload 6, 2) := by decide +kernel
theorem dX9_layGrid_91 : decode cX9_layGrid 91 = .ok (.iload 8, 2) := by decide +kernel
theorem dX9_layGrid_93 : decode cX9_layGrid 93 = .ok (.iadd, 1) := by decide +kernel
theorem dX9_layGrid_94 : decode cX9_layGrid 94 = .ok (.iaload, 1) := by decide +kernel
theorem dX9_layGrid_95 : decode cX9_layGrid 95 = .ok (.imul, 1) := by decide +kernel
theorem dX9_layGrid_96 : decode cX9_layGrid 96 = .ok (.iadd, 1) := by decide +kernel
theorem dX9_layGrid_97 : decode cX9_layGrid 97 = .ok (.istore 7, 2) := by decide +kernel
theorem dX9_layGrid_99 : decode cX9_layGrid 99 = .ok (.iinc 8 1, 3) := by decide +kernel
theorem dX9_layGrid_102 : decode cX9_layGrid 102 = .ok (.goto (-46), 3) := by decide +kernel
theorem dX9_layGrid_105 : decode cX9_layGrid 105 = .ok (.aload_n 0, 1) := by decide +kernel
theorem dX9_layGrid_106 : decode cX9_layGrid 106 = .ok (.getfield 58, 3) := by decide +kernel
theorem dX9_layGrid_109 : decode cX9_layGrid 109 = .ok (.bipush 8, 2) := by decide +kernel
theorem dX9_layGrid_111 : decode cX9_layGrid 111 = .ok (.iload 4, 2) := by decide +kernel
theorem dX9_layGrid_113 : decode cX9_layGrid 113 = .ok (.imul, 1) := by decide +kernel
theorem dX9_layGrid_114 : decode cX9_layGrid 114 = .ok (.iload 5, 2) := by decide +kernel
theorem dX9_layGrid_116 : decode cX9_layGrid 116 = .ok (.iadd, 1) := by decide +kernel
theorem dX9_layGrid_117 : decode cX9_layGrid 117 = .ok (.aload_n 0, 1) := by decide +kernel
theorem dX9_layGrid_118 : decode cX9_layGrid 118 = .ok (.iload 7, 2) := by decide +kernel
theorem dX9_layGrid_120 : decode cX9_layGrid 120 = .ok (.invokevirtual 188, 3) := by decide +kernel
theorem dX9_layGrid_123 : decode cX9_layGrid 123 = .ok (.iastore, 1) := by decide +kernel
theorem dX9_layGrid_124 : decode cX9_layGrid 124 = .ok (.iinc 5 1, 3) := by decide +kernel
theorem dX9_layGrid_127 : decode cX9_layGrid 127 = .ok (.goto (-112), 3) := by decide +kernel
theorem dX9_layGrid_130 : decode cX9_layGrid 130 = .ok (.iinc 4 1, 3) := by decide +kernel
theorem dX9_layGrid_133 : decode cX9_layGrid 133 = .ok (.goto (-130), 3) := by decide +kernel
theorem dX9_layGrid_136 : decode cX9_layGrid 136 = .ok (.return_, 1) := by decide +kernel
theorem dX9_plain_0 : decode cX9_plain 0 = .ok (.iconst 0, 1) := by decide +kernel
theorem dX9_plain_1 : decode cX9_plain 1 = .ok (.istore_n 2, 1) := by decide +kernel
theorem dX9_plain_2 : decode cX9_plain 2 = .ok (.iconst 0, 1) := by decide +kernel
theorem dX9_plain_3 : decode cX9_plain 3 = .ok (.istore_n 3, 1) := by decide +kernel
theorem dX9_plain_4 : decode cX9_plain 4 = .ok (.iload_n 3, 1) := by decide +kernel
theorem dX9_plain_5 : decode cX9_plain 5 = .ok (.iload_n 1, 1) := by decide +kernel
theorem dX9_plain_6 : decode cX9_plain 6 = .ok (.if_icmp .ge 83, 3) := by decide +kernel
theorem dX9_plain_9 : decode cX9_plain 9 = .ok (.iload_n 2, 1) := by decide +kernel
theorem dX9_plain_10 : decode cX9_plain 10 = .ok (.istore 4, 2) := by decide +kernel
theorem dX9_plain_12 : decode cX9_plain 12 = .ok (.iload 4, 2) := by decide +kernel
theorem dX9_plain_14 : decode cX9_plain 14 = .ok (.aload_n 0, 1) := by decide +kernel
theorem dX9_plain_15 : decode cX9_plain 15 = .ok (.getfield 143, 3) := by decide +kernel
theorem dX9_plain_18 : decode cX9_plain 18 = .ok (.if_icmp .ge 24, 3) := by decide +kernel
theorem dX9_plain_21 : decode cX9_plain 21 = .ok (.aload_n 0, 1) := by decide +kernel
theorem dX9_plain_22 : decode cX9_plain 22 = .ok (.getfield 58, 3) := by decide +kernel
theorem dX9_plain_25 : decode cX9_plain 25 = .ok (.bipush 8, 2) := by decide +kernel
theorem dX9_plain_27 : decode cX9_plain 27 = .ok (.iload 4, 2) := by decide +kernel
theorem dX9_plain_29 : decode cX9_plain 29 = .ok (.imul, 1) := by decide +kernel
theorem dX9_plain_30 : decode cX9_plain 30 = .ok (.iload_n 3, 1) := by decide +kernel
theorem dX9_plain_31 : decode cX9_plain 31 = .ok (.iadd, 1) := by decide +kernel
theorem dX9_plain_32 : decode cX9_plain 32 = .ok (.iaload, 1) := by decide +kernel
theorem dX9_plain_33 : decode cX9_plain 33 = .ok (.ifCond .ne 9, 3) := by decide +kernel
theorem dX9_plain_36 : decode cX9_plain 36 = .ok (.iinc 4 1, 3) := by decide +kernel
theorem dX9_plain_39 : decode cX9_plain 39 = .ok (.goto (-27), 3) := by decide +kernel
theorem dX9_plain_42 : decode cX9_plain 42 = .ok (.aload_n 0, 1) := by decide +kernel
theorem dX9_plain_43 : decode cX9_plain 43 = .ok (.getfield 61, 3) := by decide +kernel
theorem dX9_plain_46 : decode cX9_plain 46 = .ok (.iload_n 3, 1) := by decide +kernel
theorem dX9_plain_47 : decode cX9_plain 47 = .ok (.iload 4, 2) := by decide +kernel
theorem dX9_plain_49 : decode cX9_plain 49 = .ok (.aload_n 0, 1) := by decide +kernel
theorem dX9_plain_50 : decode cX9_plain 50 = .ok (.getfield 143, 3) := by decide +kernel
theorem dX9_plain_53 : decode cX9_plain 53 = .ok (.if_icmp .ge 7, 3) := by decide +kernel
theorem dX9_plain_56 : decode cX9_plain 56 = .ok (.iload_n 2, 1) := by decide +kernel
theorem dX9_plain_57 : decode cX9_plain 57 = .ok (.goto 4, 3) := by decide +kernel
theorem dX9_plain_60 : decode cX9_plain 60 = .ok (.iconst (-1), 1) := by decide +kernel
theorem dX9_plain_61 : decode cX9_plain 61 = .ok (.iastore, 1) := by decide +kernel
theorem dX9_plain_62 : decode cX9_plain 62 = .ok (.iload 4, 2) := by decide +kernel
theorem dX9_plain_64 : decode cX9_plain 64 = .ok (.aload_n 0, 1) := by decide +kernel
theorem dX9_plain_65 : decode cX9_plain 65 = .ok (.getfield 143, 3) := by decide +kernel
theorem dX9_plain_68 : decode cX9_plain 68 = .ok (.if_icmp .ge 15, 3) := by decide +kernel
theorem dX9_plain_71 : decode cX9_plain 71 = .ok (.aload_n 0, 1) := by decide +kernel
theorem dX9_plain_72 : decode cX9_plain 72 = .ok (.iload 4, 2) := by decide +kernel
theorem dX9_plain_74 : decode cX9_plain 74 = .ok (.iload_n 2, 1) := by decide +kernel
theorem dX9_plain_75 : decode cX9_plain 75 = .ok (.iload_n 3, 1) := by decide +kernel
theorem dX9_plain_76 : decode cX9_plain 76 = .ok (.iload_n 1, 1) := by decide +kernel
theorem dX9_plain_77 : decode cX9_plain 77 = .ok (.invokevirtual 191, 3) := by decide +kernel
theorem dX9_plain_80 : decode cX9_plain 80 = .ok (.iinc 2 1, 3) := by decide +kernel
theorem dX9_plain_83 : decode cX9_plain 83 = .ok (.iinc 3 1, 3) := by decide +kernel
theorem dX9_plain_86 : decode cX9_plain 86 = .ok (.goto (-82), 3) := by decide +kernel
theorem dX9_plain_89 : decode cX9_plain 89 = .ok (.return_, 1) := by decide +kernel
theorem dX9_leadBy_0 : decode cX9_leadBy 0 = .ok (.aload_n 0, 1) := by decide +kernel
theorem dX9_leadBy_1 : decode cX9_leadBy 1 = .ok (.getfield 58, 3) := by decide +kernel
theorem dX9_leadBy_4 : decode cX9_leadBy 4 = .ok (.bipush 8, 2) := by decide +kernel
theorem dX9_leadBy_6 : decode cX9_leadBy 6 = .ok (.iload_n 1, 1) := by decide +kernel
theorem dX9_leadBy_7 : decode cX9_leadBy 7 = .ok (.imul, 1) := by decide +kernel
theorem dX9_leadBy_8 : decode cX9_leadBy 8 = .ok (.iload_n 3, 1) := by decide +kernel
theorem dX9_leadBy_9 : decode cX9_leadBy 9 = .ok (.iadd, 1) := by decide +kernel
theorem dX9_leadBy_10 : decode cX9_leadBy 10 = .ok (.iaload, 1) := by decide +kernel
theorem dX9_leadBy_11 : decode cX9_leadBy 11 = .ok (.istore 5, 2) := by decide +kernel
theorem dX9_leadBy_13 : decode cX9_leadBy 13 = .ok (.iconst 0, 1) := by decide +kernel
theorem dX9_leadBy_14 : decode cX9_leadBy 14 = .ok (.istore 6, 2) := by decide +kernel
theorem dX9_leadBy_16 : decode cX9_leadBy 16 = .ok (.iload 6, 2) := by decide +kernel
theorem dX9_leadBy_18 : decode cX9_leadBy 18 = .ok (.iload 4, 2) := by decide +kernel
theorem dX9_leadBy_20 : decode cX9_leadBy 20 = .ok (.if_icmp .ge 67, 3) := by decide +kernel
theorem dX9_leadBy_23 : decode cX9_leadBy 23 = .ok (.aload_n 0, 1) := by decide +kernel
theorem dX9_leadBy_24 : decode cX9_leadBy 24 = .ok (.aload_n 0, 1) := by decide +kernel
theorem dX9_leadBy_25 : decode cX9_leadBy 25 = .ok (.getfield 58, 3) := by decide +kernel
theorem dX9_leadBy_28 : decode cX9_leadBy 28 = .ok (.bipush 8, 2) := by decide +kernel
theorem dX9_leadBy_30 : decode cX9_leadBy 30 = .ok (.iload_n 1, 1) := by decide +kernel
theorem dX9_leadBy_31 : decode cX9_leadBy 31 = .ok (.imul, 1) := by decide +kernel
theorem dX9_leadBy_32 : decode cX9_leadBy 32 = .ok (.iload 6, 2) := by decide +kernel
theorem dX9_leadBy_34 : decode cX9_leadBy 34 = .ok (.iadd, 1) := by decide +kernel
theorem dX9_leadBy_35 : decode cX9_leadBy 35 = .ok (.iaload, 1) := by decide +kernel
theorem dX9_leadBy_36 : decode cX9_leadBy 36 = .ok (.iload 5, 2) := by decide +kernel
theorem dX9_leadBy_38 : decode cX9_leadBy 38 = .ok (.invokevirtual 195, 3) := by decide +kernel
theorem dX9_leadBy_41 : decode cX9_leadBy 41 = .ok (.istore 7, 2) := by decide +kernel
theorem dX9_leadBy_43 : decode cX9_leadBy 43 = .ok (.aload_n 0, 1) := by decide +kernel
theorem dX9_leadBy_44 : decode cX9_leadBy 44 = .ok (.getfield 58, 3) := by decide +kernel
theorem dX9_leadBy_47 : decode cX9_leadBy 47 = .ok (.bipush 8, 2) := by decide +kernel
theorem dX9_leadBy_49 : decode cX9_leadBy 49 = .ok (.iload_n 1, 1) := by decide +kernel
theorem dX9_leadBy_50 : decode cX9_leadBy 50 = .ok (.imul, 1) := by decide +kernel
theorem dX9_leadBy_51 : decode cX9_leadBy 51 = .ok (.iload 6, 2) := by decide +kernel
theorem dX9_leadBy_53 : decode cX9_leadBy 53 = .ok (.iadd, 1) := by decide +kernel
theorem dX9_leadBy_54 : decode cX9_leadBy 54 = .ok (.aload_n 0, 1) := by decide +kernel
theorem dX9_leadBy_55 : decode cX9_leadBy 55 = .ok (.getfield 58, 3) := by decide +kernel
theorem dX9_leadBy_58 : decode cX9_leadBy 58 = .ok (.bipush 8, 2) := by decide +kernel
theorem dX9_leadBy_60 : decode cX9_leadBy 60 = .ok (.iload_n 2, 1) := by decide +kernel
theorem dX9_leadBy_61 : decode cX9_leadBy 61 = .ok (.imul, 1) := by decide +kernel
theorem dX9_leadBy_62 : decode cX9_leadBy 62 = .ok (.iload 6, 2) := by decide +kernel
theorem dX9_leadBy_64 : decode cX9_leadBy 64 = .ok (.iadd, 1) := by decide +kernel
theorem dX9_leadBy_65 : decode cX9_leadBy 65 = .ok (.iaload, 1) := by decide +kernel
theorem dX9_leadBy_66 : decode cX9_leadBy 66 = .ok (.iastore, 1) := by decide +kernel
theorem dX9_leadBy_67 : decode cX9_leadBy 67 = .ok (.aload_n 0, 1) := by decide +kernel
theorem dX9_leadBy_68 : decode cX9_leadBy 68 = .ok (.getfield 58, 3) := by decide +kernel
theorem dX9_leadBy_71 : decode cX9_leadBy 71 = .ok (.bipush 8, 2) := by decide +kernel
theorem dX9_leadBy_73 : decode cX9_leadBy 73 = .ok (.iload_n 2, 1) := by decide +kernel
theorem dX9_leadBy_74 : decode cX9_leadBy 74 = .ok (.imul, 1) := by decide +kernel
theorem dX9_leadBy_75 : decode cX9_leadBy 75 = .ok (.iload 6, 2) := by decide +kernel
theorem dX9_leadBy_77 : decode cX9_leadBy 77 = .ok (.iadd, 1) := by decide +kernel
theorem dX9_leadBy_78 : decode cX9_leadBy 78 = .ok (.iload 7, 2) := by decide +kernel
theorem dX9_leadBy_80 : decode cX9_leadBy 80 = .ok (.iastore, 1) := by decide +kernel
theorem dX9_leadBy_81 : decode cX9_leadBy 81 = .ok (.iinc 6 1, 3) := by decide +kernel
theorem dX9_leadBy_84 : decode cX9_leadBy 84 = .ok (.goto (-68), 3) := by decide +kernel
theorem dX9_leadBy_87 : decode cX9_leadBy 87 = .ok (.iconst 0, 1) := by decide +kernel
theorem dX9_leadBy_88 : decode cX9_leadBy 88 = .ok (.istore 6, 2) := by decide +kernel
theorem dX9_leadBy_90 : decode cX9_leadBy 90 = .ok (.iload 6, 2) := by decide +kernel
theorem dX9_leadBy_92 : decode cX9_leadBy 92 = .ok (.aload_n 0, 1) := by decide +kernel
theorem dX9_leadBy_93 : decode cX9_leadBy 93 = .ok (.getfield 143, 3) := by decide +kernel
theorem dX9_leadBy_96 : decode cX9_leadBy 96 = .ok (.if_icmp .ge 95, 3) := by decide +kernel
theorem dX9_leadBy_99 : decode cX9_leadBy 99 = .ok (.iload 6, 2) := by decide +kernel
theorem dX9_leadBy_101 : decode cX9_leadBy 101 = .ok (.iload_n 2, 1) := by decide +kernel
theorem dX9_leadBy_102 : decode cX9_leadBy 102 = .ok (.if_icmp .ne 7, 3) := by decide +kernel
theorem dX9_leadBy_105 : decode cX9_leadBy 105 = .ok (.iconst 0, 1) := by decide +kernel
theorem dX9_leadBy_106 : decode cX9_leadBy 106 = .ok (.goto 15, 3) := by decide +kernel
theorem dX9_leadBy_109 : decode cX9_leadBy 109 = .ok (.aload_n 0, 1) := by decide +kernel
theorem dX9_leadBy_110 : decode cX9_leadBy 110 = .ok (.getfield 58, 3) := by decide +kernel
theorem dX9_leadBy_113 : decode cX9_leadBy 113 = .ok (.bipush 8, 2) := by decide +kernel
theorem dX9_leadBy_115 : decode cX9_leadBy 115 = .ok (.iload 6, 2) := by decide +kernel
theorem dX9_leadBy_117 : decode cX9_leadBy 117 = .ok (.imul, 1) := by decide +kernel
theorem dX9_leadBy_118 : decode cX9_leadBy 118 = .ok (.iload_n 3, 1) := by decide +kernel
theorem dX9_leadBy_119 : decode cX9_leadBy 119 = .ok (.iadd, 1) := by decide +kernel
theorem dX9_leadBy_120 : decode cX9_leadBy 120 = .ok (.iaload, 1) := by decide +kernel
theorem dX9_leadBy_121 : decode cX9_leadBy 121 = .ok (.istore 7, 2) := by decide +kernel
theorem dX9_leadBy_123 : decode cX9_leadBy 123 = .ok (.iconst 0, 1) := by decide +kernel
theorem dX9_leadBy_124 : decode cX9_leadBy 124 = .ok (.istore 8, 2) := by decide +kernel
theorem dX9_leadBy_126 : decode cX9_leadBy 126 = .ok (.iload 8, 2) := by decide +kernel
theorem dX9_leadBy_128 : decode cX9_leadBy 128 = .ok (.iload 4, 2) := by decide +kernel
theorem dX9_leadBy_130 : decode cX9_leadBy 130 = .ok (.if_icmp .ge 55, 3) := by decide +kernel
theorem dX9_leadBy_133 : decode cX9_leadBy 133 = .ok (.aload_n 0, 1) := by decide +kernel
theorem dX9_leadBy_134 : decode cX9_leadBy 134 = .ok (.getfield 58, 3) := by decide +kernel
theorem dX9_leadBy_137 : decode cX9_leadBy 137 = .ok (.bipush 8, 2) := by decide +kernel
theorem dX9_leadBy_139 : decode cX9_leadBy 139 = .ok (.iload 6, 2) := by decide +kernel
theorem dX9_leadBy_141 : decode cX9_leadBy 141 = .ok (.imul, 1) := by decide +kernel
theorem dX9_leadBy_142 : decode cX9_leadBy 142 = .ok (.iload 8, 2) := by decide +kernel
theorem dX9_leadBy_144 : decode cX9_leadBy 144 = .ok (.iadd, 1) := by decide +kernel
theorem dX9_leadBy_145 : decode cX9_leadBy 145 = .ok (.aload_n 0, 1) := by decide +kernel
theorem dX9_leadBy_146 : decode cX9_leadBy 146 = .ok (.aload_n 0, 1) := by decide +kernel
theorem dX9_leadBy_147 : decode cX9_leadBy 147 = .ok (.getfield 58, 3) := by decide +kernel
theorem dX9_leadBy_150 : decode cX9_leadBy 150 = .ok (.bipush 8, 2) := by decide +kernel
theorem dX9_leadBy_152 : decode cX9_leadBy 152 = .ok (.iload 6, 2) := by decide +kernel
theorem dX9_leadBy_154 : decode cX9_leadBy 154 = .ok (.imul, 1) := by decide +kernel
theorem dX9_leadBy_155 : decode cX9_leadBy 155 = .ok (.iload 8, 2) := by decide +kernel
theorem dX9_leadBy_157 : decode cX9_leadBy 157 = .ok (.iadd, 1) := by decide +kernel
theorem dX9_leadBy_158 : decode cX9_leadBy 158 = .ok (.iaload, 1) := by decide +kernel
theorem dX9_leadBy_159 : decode cX9_leadBy 159 = .ok (.iload 7, 2) := by decide +kernel
theorem dX9_leadBy_161 : decode cX9_leadBy 161 = .ok (.aload_n 0, 1) := by decide +kernel
theorem dX9_leadBy_162 : decode cX9_leadBy 162 = .ok (.getfield 58, 3) := by decide +kernel
theorem dX9_leadBy_165 : decode cX9_leadBy 165 = .ok (.bipush 8, 2) := by decide +kernel
theorem dX9_leadBy_167 : decode cX9_leadBy 167 = .ok (.iload_n 2, 1) := by decide +kernel
theorem dX9_leadBy_168 : decode cX9_leadBy 168 = .ok (.imul, 1) := by decide +kernel
theorem dX9_leadBy_169 : decode cX9_leadBy 169 = .ok (.iload 8, 2) := by decide +kernel
theorem dX9_leadBy_171 : decode cX9_leadBy 171 = .ok (.iadd, 1) := by decide +kernel
theorem dX9_leadBy_172 : decode cX9_leadBy 172 = .ok (.iaload, 1) := by decide +kernel
theorem dX9_leadBy_173 : decode cX9_leadBy 173 = .ok (.imul, 1) := by decide +kernel
theorem dX9_leadBy_174 : decode cX9_leadBy 174 = .ok (.isub, 1) := by decide +kernel
theorem dX9_leadBy_175 : decode cX9_leadBy 175 = .ok (.invokevirtual 188, 3) := by decide +kernel
theorem dX9_leadBy_178 : decode cX9_leadBy 178 = .ok (.iastore, 1) := by decide +kernel
theorem dX9_leadBy_179 : decode cX9_leadBy 179 = .ok (.iinc 8 1, 3) := by decide +kernel
theorem dX9_leadBy_182 : decode cX9_leadBy 182 = .ok (.goto (-56), 3) := by decide +kernel
theorem dX9_leadBy_185 : decode cX9_leadBy 185 = .ok (.iinc 6 1, 3) := by decide +kernel
theorem dX9_leadBy_188 : decode cX9_leadBy 188 = .ok (.goto (-98), 3) := by decide +kernel
theorem dX9_leadBy_191 : decode cX9_leadBy 191 = .ok (.return_, 1) := by decide +kernel
theorem dX9_split_0 : decode cX9_split 0 = .ok (.aload_n 0, 1) := by decide +kernel
theorem dX9_split_1 : decode cX9_split 1 = .ok (.getfield 46, 3) := by decide +kernel
theorem dX9_split_4 : decode cX9_split 4 = .ok (.iload_n 1, 1) := by decide +kernel
theorem dX9_split_5 : decode cX9_split 5 = .ok (.iaload, 1) := by decide +kernel
theorem dX9_split_6 : decode cX9_split 6 = .ok (.istore 4, 2) := by decide +kernel
theorem dX9_split_8 : decode cX9_split 8 = .ok (.aload_n 0, 1) := by decide +kernel
theorem dX9_split_9 : decode cX9_split 9 = .ok (.iload_n 1, 1) := by decide +kernel
theorem dX9_split_10 : decode cX9_split 10 = .ok (.iload_n 2, 1) := by decide +kernel
theorem dX9_split_11 : decode cX9_split 11 = .ok (.iload_n 3, 1) := by decide +kernel
theorem dX9_split_12 : decode cX9_split 12 = .ok (.invokevirtual 198, 3) := by decide +kernel
theorem dX9_split_15 : decode cX9_split 15 = .ok (.aload_n 0, 1) := by decide +kernel
theorem dX9_split_16 : decode cX9_split 16 = .ok (.iload 4, 2) := by decide +kernel
theorem dX9_split_18 : decode cX9_split 18 = .ok (.invokevirtual 202, 3) := by decide +kernel
theorem dX9_split_21 : decode cX9_split 21 = .ok (.iconst 0, 1) := by decide +kernel
theorem dX9_split_22 : decode cX9_split 22 = .ok (.istore 5, 2) := by decide +kernel
theorem dX9_split_24 : decode cX9_split 24 = .ok (.iconst 0, 1) := by decide +kernel
theorem dX9_split_25 : decode cX9_split 25 = .ok (.istore 6, 2) := by decide +kernel
theorem dX9_split_27 : decode cX9_split 27 = .ok (.iload 6, 2) := by decide +kernel
theorem dX9_split_29 : decode cX9_split 29 = .ok (.iload 4, 2) := by decide +kernel
theorem dX9_split_31 : decode cX9_split 31 = .ok (.if_icmp .ge 161, 3) := by decide +kernel
theorem dX9_split_34 : decode cX9_split 34 = .ok (.aload_n 0, 1) := by decide +kernel
theorem dX9_split_35 : decode cX9_split 35 = .ok (.getfield 61, 3) := by decide +kernel
theorem dX9_split_38 : decode cX9_split 38 = .ok (.iload 6, 2) := by decide +kernel
theorem dX9_split_40 : decode cX9_split 40 = .ok (.iaload, 1) := by decide +kernel
theorem dX9_split_41 : decode cX9_split 41 = .ok (.iconst (-1), 1) := by decide +kernel
theorem dX9_split_42 : decode cX9_split 42 = .ok (.if_icmp .ne 144, 3) := by decide +kernel
theorem dX9_split_45 : decode cX9_split 45 = .ok (.iconst 0, 1) := by decide +kernel
theorem dX9_split_46 : decode cX9_split 46 = .ok (.istore 7, 2) := by decide +kernel
theorem dX9_split_48 : decode cX9_split 48 = .ok (.iload 7, 2) := by decide +kernel
theorem dX9_split_50 : decode cX9_split 50 = .ok (.aload_n 0, 1) := by decide +kernel
theorem dX9_split_51 : decode cX9_split 51 = .ok (.getfield 143, 3) := by decide +kernel
theorem dX9_split_54 : decode cX9_split 54 = .ok (.if_icmp .ge 129, 3) := by decide +kernel
theorem dX9_split_57 : decode cX9_split 57 = .ok (.aload_n 0, 1) := by decide +kernel
theorem dX9_split_58 : decode cX9_split 58 = .ok (.getfield 49, 3) := by decide +kernel
theorem dX9_split_61 : decode cX9_split 61 = .ok (.bipush 64, 2) := by decide +kernel
theorem dX9_split_63 : decode cX9_split 63 = .ok (.iload_n 1, 1) := by decide +kernel
theorem dX9_split_64 : decode cX9_split 64 = .ok (.imul, 1) := by decide +kernel
theorem dX9_split_65 : decode cX9_split 65 = .ok (.bipush 8, 2) := by decide +kernel
theorem dX9_split_67 : decode cX9_split 67 = .ok (.iload 6, 2) := by decide +kernel
theorem dX9_split_69 : decode cX9_split 69 = .ok (.imul, 1) := by decide +kernel
theorem dX9_split_70 : decode cX9_split 70 = .ok (.iadd, 1) := by decide +kernel
theorem dX9_split_71 : decode cX9_split 71 = .ok (.iload 7, 2) := by decide +kernel
theorem dX9_split_73 : decode cX9_split 73 = .ok (.iadd, 1) := by decide +kernel
theorem dX9_split_74 : decode cX9_split 74 = .ok (.iaload, 1) := by decide +kernel
theorem dX9_split_75 : decode cX9_split 75 = .ok (.istore 8, 2) := by decide +kernel
theorem dX9_split_77 : decode cX9_split 77 = .ok (.iconst 0, 1) := by decide +kernel
theorem dX9_split_78 : decode cX9_split 78 = .ok (.istore 9, 2) := by decide +kernel
theorem dX9_split_80 : decode cX9_split 80 = .ok (.iload 9, 2) := by decide +kernel
theorem dX9_split_82 : decode cX9_split 82 = .ok (.iload 4, 2) := by decide +kernel
theorem dX9_split_84 : decode cX9_split 84 = .ok (.if_icmp .ge 66, 3) := by decide +kernel
theorem dX9_split_87 : decode cX9_split 87 = .ok (.iload 8, 2) := by decide +kernel
theorem dX9_split_89 : decode cX9_split 89 = .ok (.aload_n 0, 1) := by decide +kernel
theorem dX9_split_90 : decode cX9_split 90 = .ok (.getfield 61, 3) := by decide +kernel
theorem dX9_split_93 : decode cX9_split 93 = .ok (.iload 9, 2) := by decide +kernel
theorem dX9_split_95 : decode cX9_split 95 = .ok (.iaload, 1) := by decide +kernel
theorem dX9_split_96 : decode cX9_split 96 = .ok (.iconst (-1), 1) := by decide +kernel
theorem dX9_split_97 : decode cX9_split 97 = .ok (.if_icmp .ne 7, 3) := by decide +kernel
theorem dX9_split_100 : decode cX9_split 100 = .ok (.iconst 0, 1) := by decide +kernel
theorem dX9_split_101 : decode cX9_split 101 = .ok (.goto 40, 3) := by decide +kernel
theorem dX9_split_104 : decode cX9_split 104 = .ok (.aload_n 0, 1) := by decide +kernel
theorem dX9_split_105 : decode cX9_split 105 = .ok (.getfield 58, 3) := by decide +kernel
theorem dX9_split_108 : decode cX9_split 108 = .ok (.bipush 8, 2) := by decide +kernel
theorem dX9_split_110 : decode cX9_split 110 = .ok (.aload_n 0, 1) := by decide +kernel
theorem dX9_split_111 : decode cX9_split 111 = .ok (.getfield 61, 3) := by decide +kernel
theorem dX9_split_114 : decode cX9_split 114 = .ok (.iload 9, 2) := by decide +kernel
theorem dX9_split_116 : decode cX9_split 116 = .ok (.iaload, 1) := by decide +kernel
theorem dX9_split_117 : decode cX9_split 117 = .ok (.imul, 1) := by decide +kernel
theorem dX9_split_118 : decode cX9_split 118 = .ok (.iload 6, 2) := by decide +kernel
theorem dX9_split_120 : decode cX9_split 120 = .ok (.iadd, 1) := by decide +kernel
theorem dX9_split_121 : decode cX9_split 121 = .ok (.iaload, 1) := by decide +kernel
theorem dX9_split_122 : decode cX9_split 122 = .ok (.aload_n 0, 1) := by decide +kernel
theorem dX9_split_123 : decode cX9_split 123 = .ok (.getfield 49, 3) := by decide +kernel
theorem dX9_split_126 : decode cX9_split 126 = .ok (.bipush 64, 2) := by decide +kernel
theorem dX9_split_128 : decode cX9_split 128 = .ok (.iload_n 1, 1) := by decide +kernel
theorem dX9_split_129 : decode cX9_split 129 = .ok (.imul, 1) := by decide +kernel
theorem dX9_split_130 : decode cX9_split 130 = .ok (.bipush 8, 2) := by decide +kernel
theorem dX9_split_132 : decode cX9_split 132 = .ok (.iload 9, 2) := by decide +kernel
theorem dX9_split_134 : decode cX9_split 134 = .ok (.imul, 1) := by decide +kernel
theorem dX9_split_135 : decode cX9_split 135 = .ok (.iadd, 1) := by decide +kernel
theorem dX9_split_136 : decode cX9_split 136 = .ok (.iload 7, 2) := by decide +kernel
theorem dX9_split_138 : decode cX9_split 138 = .ok (.iadd, 1) := by decide +kernel
theorem dX9_split_139 : decode cX9_split 139 = .ok (.iaload, 1) := by decide +kernel
theorem dX9_split_140 : decode cX9_split 140 = .ok (.imul, 1) := by decide +kernel
theorem dX9_split_141 : decode cX9_split 141 = .ok (.isub, 1) := by decide +kernel
theorem dX9_split_142 : decode cX9_split 142 = .ok (.istore 8, 2) := by decide +kernel
theorem dX9_split_144 : decode cX9_split 144 = .ok (.iinc 9 1, 3) := by decide +kernel
theorem dX9_split_147 : decode cX9_split 147 = .ok (.goto (-67), 3) := by decide +kernel
theorem dX9_split_150 : decode cX9_split 150 = .ok (.aload_n 0, 1) := by decide +kernel
theorem dX9_split_151 : decode cX9_split 151 = .ok (.getfield 55, 3) := by decide +kernel
theorem dX9_split_154 : decode cX9_split 154 = .ok (.bipush 64, 2) := by decide +kernel
theorem dX9_split_156 : decode cX9_split 156 = .ok (.aload_n 0, 1) := by decide +kernel
theorem dX9_split_157 : decode cX9_split 157 = .ok (.getfield 206, 3) := by decide +kernel
theorem dX9_split_160 : decode cX9_split 160 = .ok (.imul, 1) := by decide +kernel
theorem dX9_split_161 : decode cX9_split 161 = .ok (.bipush 8, 2) := by decide +kernel
theorem dX9_split_163 : decode cX9_split 163 = .ok (.iload 5, 2) := by decide +kernel
theorem dX9_split_165 : decode cX9_split 165 = .ok (.imul, 1) := by decide +kernel
theorem dX9_split_166 : decode cX9_split 166 = .ok (.iadd, 1) := by decide +kernel
theorem dX9_split_167 : decode cX9_split 167 = .ok (.iload 7, 2) := by decide +kernel
theorem dX9_split_169 : decode cX9_split 169 = .ok (.iadd, 1) := by decide +kernel
theorem dX9_split_170 : decode cX9_split 170 = .ok (.aload_n 0, 1) := by decide +kernel
theorem dX9_split_171 : decode cX9_split 171 = .ok (.iload 8, 2) := by decide +kernel
theorem dX9_split_173 : decode cX9_split 173 = .ok (.invokevirtual 188, 3) := by decide +kernel
theorem dX9_split_176 : decode cX9_split 176 = .ok (.iastore, 1) := by decide +kernel
theorem dX9_split_177 : decode cX9_split 177 = .ok (.iinc 7 1, 3) := by decide +kernel
theorem dX9_split_180 : decode cX9_split 180 = .ok (.goto (-132), 3) := by decide +kernel
theorem dX9_split_183 : decode cX9_split 183 = .ok (.iinc 5 1, 3) := by decide +kernel
theorem dX9_split_186 : decode cX9_split 186 = .ok (.iinc 6 1, 3) := by decide +kernel
theorem dX9_split_189 : decode cX9_split 189 = .ok (.goto (-162), 3) := by decide +kernel
theorem dX9_split_192 : decode cX9_split 192 = .ok (.iload 5, 2) := by decide +kernel
theorem dX9_split_194 : decode cX9_split 194 = .ok (.ifCond .le 24, 3) := by decide +kernel
theorem dX9_split_197 : decode cX9_split 197 = .ok (.aload_n 0, 1) := by decide +kernel
theorem dX9_split_198 : decode cX9_split 198 = .ok (.getfield 52, 3) := by decide +kernel
theorem dX9_split_201 : decode cX9_split 201 = .ok (.aload_n 0, 1) := by decide +kernel
theorem dX9_split_202 : decode cX9_split 202 = .ok (.getfield 206, 3) := by decide +kernel
theorem dX9_split_205 : decode cX9_split 205 = .ok (.iload 5, 2) := by decide +kernel
theorem dX9_split_207 : decode cX9_split 207 = .ok (.iastore, 1) := by decide +kernel
theorem dX9_split_208 : decode cX9_split 208 = .ok (.aload_n 0, 1) := by decide +kernel
theorem dX9_split_209 : decode cX9_split 209 = .ok (.dup, 1) := by decide +kernel
theorem dX9_split_210 : decode cX9_split 210 = .ok (.getfield 206, 3) := by decide +kernel
theorem dX9_split_213 : decode cX9_split 213 = .ok (.iconst 1, 1) := by decide +kernel
theorem dX9_split_214 : decode cX9_split 214 = .ok (.iadd, 1) := by decide +kernel
theorem dX9_split_215 : decode cX9_split 215 = .ok (.putfield 206, 3) := by decide +kernel
theorem dX9_split_218 : decode cX9_split 218 = .ok (.return_, 1) := by decide +kernel
theorem dX9_findSpreads_0 : decode cX9_findSpreads 0 = .ok (.aload_n 0, 1) := by decide +kernel
theorem dX9_findSpreads_1 : decode cX9_findSpreads 1 = .ok (.iconst 1, 1) := by decide +kernel
theorem dX9_findSpreads_2 : decode cX9_findSpreads 2 = .ok (.putfield 209, 3) := by decide +kernel
theorem dX9_findSpreads_5 : decode cX9_findSpreads 5 = .ok (.aload_n 0, 1) := by decide +kernel
theorem dX9_findSpreads_6 : decode cX9_findSpreads 6 = .ok (.getfield 46, 3) := by decide +kernel
theorem dX9_findSpreads_9 : decode cX9_findSpreads 9 = .ok (.iconst 0, 1) := by decide +kernel
theorem dX9_findSpreads_10 : decode cX9_findSpreads 10 = .ok (.aload_n 0, 1) := by decide +kernel
theorem dX9_findSpreads_11 : decode cX9_findSpreads 11 = .ok (.getfield 143, 3) := by decide +kernel
theorem dX9_findSpreads_14 : decode cX9_findSpreads 14 = .ok (.iastore, 1) := by decide +kernel
theorem dX9_findSpreads_15 : decode cX9_findSpreads 15 = .ok (.iconst 0, 1) := by decide +kernel
theorem dX9_findSpreads_16 : decode cX9_findSpreads 16 = .ok (.istore_n 1, 1) := by decide +kernel
theorem dX9_findSpreads_17 : decode cX9_findSpreads 17 = .ok (.iload_n 1, 1) := by decide +kernel
theorem dX9_findSpreads_18 : decode cX9_findSpreads 18 = .ok (.aload_n 0, 1) := by decide +kernel
theorem dX9_findSpreads_19 : decode cX9_findSpreads 19 = .ok (.getfield 143, 3) := by decide +kernel
theorem dX9_findSpreads_22 : decode cX9_findSpreads 22 = .ok (.if_icmp .ge 46, 3) := by decide +kernel
theorem dX9_findSpreads_25 : decode cX9_findSpreads 25 = .ok (.iconst 0, 1) := by decide +kernel
theorem dX9_findSpreads_26 : decode cX9_findSpreads 26 = .ok (.istore_n 2, 1) := by decide +kernel
theorem dX9_findSpreads_27 : decode cX9_findSpreads 27 = .ok (.iload_n 2, 1) := by decide +kernel
theorem dX9_findSpreads_28 : decode cX9_findSpreads 28 = .ok (.aload_n 0, 1) := by decide +kernel
theorem dX9_findSpreads_29 : decode cX9_findSpreads 29 = .ok (.getfield 143, 3) := by decide +kernel
theorem dX9_findSpreads_32 : decode cX9_findSpreads 32 = .ok (.if_icmp .ge 30, 3) := by decide +kernel
theorem dX9_findSpreads_35 : decode cX9_findSpreads 35 = .ok (.aload_n 0, 1) := by decide +kernel
theorem dX9_findSpreads_36 : decode cX9_findSpreads 36 = .ok (.getfield 49, 3) := by decide +kernel
theorem dX9_findSpreads_39 : decode cX9_findSpreads 39 = .ok (.bipush 8, 2) := by decide +kernel
theorem dX9_findSpreads_41 : decode cX9_findSpreads 41 = .ok (.iload_n 1, 1) := by decide +kernel
theorem dX9_findSpreads_42 : decode cX9_findSpreads 42 = .ok (.imul, 1) := by decide +kernel
theorem dX9_findSpreads_43 : decode cX9_findSpreads 43 = .ok (.iload_n 2, 1) := by decide +kernel
theorem dX9_findSpreads_44 : decode cX9_findSpreads 44 = .ok (.iadd, 1) := by decide +kernel
theorem dX9_findSpreads_45 : decode cX9_findSpreads 45 = .ok (.iload_n 1, 1) := by decide +kernel
theorem dX9_findSpreads_46 : decode cX9_findSpreads 46 = .ok (.iload_n 2, 1) := by decide +kernel
theorem dX9_findSpreads_47 : decode cX9_findSpreads 47 = .ok (.if_icmp .ne 7, 3) := by decide +kernel
theorem dX9_findSpreads_50 : decode cX9_findSpreads 50 = .ok (.iconst 1, 1) := by decide +kernel
theorem dX9_findSpreads_51 : decode cX9_findSpreads 51 = .ok (.goto 4, 3) := by decide +kernel
theorem dX9_findSpreads_54 : decode cX9_findSpreads 54 = .ok (.iconst 0, 1) := by decide +kernel
theorem dX9_findSpreads_55 : decode cX9_findSpreads 55 = .ok (.iastore, 1) := by decide +kernel
theorem dX9_findSpreads_56 : decode cX9_findSpreads 56 = .ok (.iinc 2 1, 3) := by decide +kernel
theorem dX9_findSpreads_59 : decode cX9_findSpreads 59 = .ok (.goto (-32), 3) := by decide +kernel
theorem dX9_findSpreads_62 : decode cX9_findSpreads 62 = .ok (.iinc 1 1, 3) := by decide +kernel
theorem dX9_findSpreads_65 : decode cX9_findSpreads 65 = .ok (.goto (-48), 3) := by decide +kernel
theorem dX9_findSpreads_68 : decode cX9_findSpreads 68 = .ok (.iconst 1, 1) := by decide +kernel
theorem dX9_findSpreads_69 : decode cX9_findSpreads 69 = .ok (.istore_n 1, 1) := by decide +kernel
theorem dX9_findSpreads_70 : decode cX9_findSpreads 70 = .ok (.iload_n 1, 1) := by decide +kernel
theorem dX9_findSpreads_71 : decode cX9_findSpreads 71 = .ok (.aload_n 0, 1) := by decide +kernel
theorem dX9_findSpreads_72 : decode cX9_findSpreads 72 = .ok (.getfield 143, 3) := by decide +kernel
theorem dX9_findSpreads_75 : decode cX9_findSpreads 75 = .ok (.if_icmp .ge 136, 3) := by decide +kernel
theorem dX9_findSpreads_78 : decode cX9_findSpreads 78 = .ok (.aload_n 0, 1) := by decide +kernel
theorem dX9_findSpreads_79 : decode cX9_findSpreads 79 = .ok (.getfield 209, 3) := by decide +kernel
theorem dX9_findSpreads_82 : decode cX9_findSpreads 82 = .ok (.aload_n 0, 1) := by decide +kernel
theorem dX9_findSpreads_83 : decode cX9_findSpreads 83 = .ok (.getfield 143, 3) := by decide +kernel
theorem dX9_findSpreads_86 : decode cX9_findSpreads 86 = .ok (.if_icmp .ge 125, 3) := by decide +kernel
theorem dX9_findSpreads_89 : decode cX9_findSpreads 89 = .ok (.aload_n 0, 1) := by decide +kernel
theorem dX9_findSpreads_90 : decode cX9_findSpreads 90 = .ok (.iconst 0, 1) := by decide +kernel
theorem dX9_findSpreads_91 : decode cX9_findSpreads 91 = .ok (.putfield 206, 3) := by decide +kernel
theorem dX9_findSpreads_94 : decode cX9_findSpreads 94 = .ok (.iconst 0, 1) := by decide +kernel
theorem dX9_findSpreads_95 : decode cX9_findSpreads 95 = .ok (.istore_n 2, 1) := by decide +kernel
theorem dX9_findSpreads_96 : decode cX9_findSpreads 96 = .ok (.iload_n 2, 1) := by decide +kernel
theorem dX9_findSpreads_97 : decode cX9_findSpreads 97 = .ok (.aload_n 0, 1) := by decide +kernel
theorem dX9_findSpreads_98 : decode cX9_findSpreads 98 = .ok (.getfield 209, 3) := by decide +kernel
theorem dX9_findSpreads_101 : decode cX9_findSpreads 101 = .ok (.if_icmp .ge 43, 3) := by decide +kernel
theorem dX9_findSpreads_104 : decode cX9_findSpreads 104 = .ok (.iconst 0, 1) := by decide +kernel
theorem dX9_findSpreads_105 : decode cX9_findSpreads 105 = .ok (.istore_n 3, 1) := by decide +kernel
theorem dX9_findSpreads_106 : decode cX9_findSpreads 106 = .ok (.iload_n 3, 1) := by decide +kernel
theorem dX9_findSpreads_107 : decode cX9_findSpreads 107 = .ok (.aload_n 0, 1) := by decide +kernel
theorem dX9_findSpreads_108 : decode cX9_findSpreads 108 = .ok (.getfield 146, 3) := by decide +kernel
theorem dX9_findSpreads_111 : decode cX9_findSpreads 111 = .ok (.if_icmp .ge 27, 3) := by decide +kernel
theorem dX9_findSpreads_114 : decode cX9_findSpreads 114 = .ok (.aload_n 0, 1) := by decide +kernel
theorem dX9_findSpreads_115 : decode cX9_findSpreads 115 = .ok (.getfield 206, 3) := by decide +kernel
theorem dX9_findSpreads_118 : decode cX9_findSpreads 118 = .ok (.aload_n 0, 1) := by decide +kernel
theorem dX9_findSpreads_119 : decode cX9_findSpreads 119 = .ok (.getfield 143, 3) := by decide +kernel
theorem dX9_findSpreads_122 : decode cX9_findSpreads 122 = .ok (.if_icmp .ge 16, 3) := by decide +kernel
theorem dX9_findSpreads_125 : decode cX9_findSpreads 125 = .ok (.aload_n 0, 1) := by decide +kernel
theorem dX9_findSpreads_126 : decode cX9_findSpreads 126 = .ok (.iload_n 2, 1) := by decide +kernel
theorem dX9_findSpreads_127 : decode cX9_findSpreads 127 = .ok (.iload_n 1, 1) := by decide +kernel
theorem dX9_findSpreads_128 : decode cX9_findSpreads 128 = .ok (.iload_n 3, 1) := by decide +kernel
theorem dX9_findSpreads_129 : decode cX9_findSpreads 129 = .ok (.invokevirtual 212, 3) := by decide +kernel
theorem dX9_findSpreads_132 : decode cX9_findSpreads 132 = .ok (.iinc 3 1, 3) := by decide +kernel
theorem dX9_findSpreads_135 : decode cX9_findSpreads 135 = .ok (.goto (-29), 3) := by decide +kernel
theorem dX9_findSpreads_138 : decode cX9_findSpreads 138 = .ok (.iinc 2 1, 3) := by decide +kernel
theorem dX9_findSpreads_141 : decode cX9_findSpreads 141 = .ok (.goto (-45), 3) := by decide +kernel
theorem dX9_findSpreads_144 : decode cX9_findSpreads 144 = .ok (.aload_n 0, 1) := by decide +kernel
theorem dX9_findSpreads_145 : decode cX9_findSpreads 145 = .ok (.aload_n 0, 1) := by decide +kernel
theorem dX9_findSpreads_146 : decode cX9_findSpreads 146 = .ok (.getfield 206, 3) := by decide +kernel
theorem dX9_findSpreads_149 : decode cX9_findSpreads 149 = .ok (.putfield 209, 3) := by decide +kernel
theorem dX9_findSpreads_152 : decode cX9_findSpreads 152 = .ok (.iconst 0, 1) := by decide +kernel
theorem dX9_findSpreads_153 : decode cX9_findSpreads 153 = .ok (.istore_n 2, 1) := by decide +kernel
theorem dX9_findSpreads_154 : decode cX9_findSpreads 154 = .ok (.iload_n 2, 1) := by decide +kernel
theorem dX9_findSpreads_155 : decode cX9_findSpreads 155 = .ok (.sipush 512, 3) := by decide +kernel
theorem dX9_findSpreads_158 : decode cX9_findSpreads 158 = .ok (.if_icmp .ge 21, 3) := by decide +kernel
theorem dX9_findSpreads_161 : decode cX9_findSpreads 161 = .ok (.aload_n 0, 1) := by decide +kernel
theorem dX9_findSpreads_162 : decode cX9_findSpreads 162 = .ok (.getfield 49, 3) := by decide +kernel
theorem dX9_findSpreads_165 : decode cX9_findSpreads 165 = .ok (.iload_n 2, 1) := by decide +kernel
theorem dX9_findSpreads_166 : decode cX9_findSpreads 166 = .ok (.aload_n 0, 1) := by decide +kernel
theorem dX9_findSpreads_167 : decode cX9_findSpreads 167 = .ok (.getfield 55, 3) := by decide +kernel
theorem dX9_findSpreads_170 : decode cX9_findSpreads 170 = .ok (.iload_n 2, 1) := by decide +kernel
theorem dX9_findSpreads_171 : decode cX9_findSpreads 171 = .ok (.iaload, 1) := by decide +kernel
theorem dX9_findSpreads_172 : decode cX9_findSpreads 172 = .ok (.iastore, 1) := by decide +kernel
theorem dX9_findSpreads_173 : decode cX9_findSpreads 173 = .ok (.iinc 2 1, 3) := by decide +kernel
theorem dX9_findSpreads_176 : decode cX9_findSpreads 176 = .ok (.goto (-22), 3) := by decide +kernel
theorem dX9_findSpreads_179 : decode cX9_findSpreads 179 = .ok (.iconst 0, 1) := by decide +kernel
theorem dX9_findSpreads_180 : decode cX9_findSpreads 180 = .ok (.istore_n 2, 1) := by decide +kernel
theorem dX9_findSpreads_181 : decode cX9_findSpreads 181 = .ok (.iload_n 2, 1) := by decide +kernel
theorem dX9_findSpreads_182 : decode cX9_findSpreads 182 = .ok (.bipush 8, 2) := by decide +kernel
theorem dX9_findSpreads_184 : decode cX9_findSpreads 184 = .ok (.if_icmp .ge 21, 3) := by decide +kernel
theorem dX9_findSpreads_187 : decode cX9_findSpreads 187 = .ok (.aload_n 0, 1) := by decide +kernel
theorem dX9_findSpreads_188 : decode cX9_findSpreads 188 = .ok (.getfield 46, 3) := by decide +kernel
theorem dX9_findSpreads_191 : decode cX9_findSpreads 191 = .ok (.iload_n 2, 1) := by decide +kernel
theorem dX9_findSpreads_192 : decode cX9_findSpreads 192 = .ok (.aload_n 0, 1) := by decide +kernel
theorem dX9_findSpreads_193 : decode cX9_findSpreads 193 = .ok (.getfield 52, 3) := by decide +kernel
theorem dX9_findSpreads_196 : decode cX9_findSpreads 196 = .ok (.iload_n 2, 1) := by decide +kernel
theorem dX9_findSpreads_197 : decode cX9_findSpreads 197 = .ok (.iaload, 1) := by decide +kernel
theorem dX9_findSpreads_198 : decode cX9_findSpreads 198 = .ok (.iastore, 1) := by decide +kernel
theorem dX9_findSpreads_199 : decode cX9_findSpreads 199 = .ok (.iinc 2 1, 3) := by decide +kernel
theorem dX9_findSpreads_202 : decode cX9_findSpreads 202 = .ok (.goto (-21), 3) := by decide +kernel
theorem dX9_findSpreads_205 : decode cX9_findSpreads 205 = .ok (.iinc 1 1, 3) := by decide +kernel
theorem dX9_findSpreads_208 : decode cX9_findSpreads 208 = .ok (.goto (-138), 3) := by decide +kernel
theorem dX9_findSpreads_211 : decode cX9_findSpreads 211 = .ok (.return_, 1) := by decide +kernel
theorem dX9_starOf_0 : decode cX9_starOf 0 = .ok (.aload_n 0, 1) := by decide +kernel
theorem dX9_starOf_1 : decode cX9_starOf 1 = .ok (.getfield 28, 3) := by decide +kernel
theorem dX9_starOf_4 : decode cX9_starOf 4 = .ok (.aload_n 0, 1) := by decide +kernel
theorem dX9_starOf_5 : decode cX9_starOf 5 = .ok (.getfield 31, 3) := by decide +kernel
theorem dX9_starOf_8 : decode cX9_starOf 8 = .ok (.aload_n 0, 1) := by decide +kernel
theorem dX9_starOf_9 : decode cX9_starOf 9 = .ok (.getfield 40, 3) := by decide +kernel
theorem dX9_starOf_12 : decode cX9_starOf 12 = .ok (.iload_n 1, 1) := by decide +kernel
theorem dX9_starOf_13 : decode cX9_starOf 13 = .ok (.iaload, 1) := by decide +kernel
theorem dX9_starOf_14 : decode cX9_starOf 14 = .ok (.iaload, 1) := by decide +kernel
theorem dX9_starOf_15 : decode cX9_starOf 15 = .ok (.iaload, 1) := by decide +kernel
theorem dX9_starOf_16 : decode cX9_starOf 16 = .ok (.ireturn, 1) := by decide +kernel
theorem dX9_degreeOf_0 : decode cX9_degreeOf 0 = .ok (.iconst 0, 1) := by decide +kernel
theorem dX9_degreeOf_1 : decode cX9_degreeOf 1 = .ok (.istore_n 2, 1) := by decide +kernel
theorem dX9_degreeOf_2 : decode cX9_degreeOf 2 = .ok (.iconst 0, 1) := by decide +kernel
theorem dX9_degreeOf_3 : decode cX9_degreeOf 3 = .ok (.istore_n 3, 1) := by decide +kernel
theorem dX9_degreeOf_4 : decode cX9_degreeOf 4 = .ok (.iload_n 3, 1) := by decide +kernel
theorem dX9_degreeOf_5 : decode cX9_degreeOf 5 = .ok (.aload_n 0, 1) := by decide +kernel
theorem dX9_degreeOf_6 : decode cX9_degreeOf 6 = .ok (.getfield 143, 3) := by decide +kernel
theorem dX9_degreeOf_9 : decode cX9_degreeOf 9 = .ok (.if_icmp .ge 49, 3) := by decide +kernel
theorem dX9_degreeOf_12 : decode cX9_degreeOf 12 = .ok (.iload_n 2, 1) := by decide +kernel
theorem dX9_degreeOf_13 : decode cX9_degreeOf 13 = .ok (.aload_n 0, 1) := by decide +kernel
theorem dX9_degreeOf_14 : decode cX9_degreeOf 14 = .ok (.aload_n 0, 1) := by decide +kernel
theorem dX9_degreeOf_15 : decode cX9_degreeOf 15 = .ok (.getfield 64, 3) := by decide +kernel
theorem dX9_degreeOf_18 : decode cX9_degreeOf 18 = .ok (.bipush 8, 2) := by decide +kernel
theorem dX9_degreeOf_20 : decode cX9_degreeOf 20 = .ok (.iload_n 1, 1) := by decide +kernel
theorem dX9_degreeOf_21 : decode cX9_degreeOf 21 = .ok (.imul, 1) := by decide +kernel
theorem dX9_degreeOf_22 : decode cX9_degreeOf 22 = .ok (.iload_n 3, 1) := by decide +kernel
theorem dX9_degreeOf_23 : decode cX9_degreeOf 23 = .ok (.iadd, 1) := by decide +kernel
theorem dX9_degreeOf_24 : decode cX9_degreeOf 24 = .ok (.iaload, 1) := by decide +kernel
theorem dX9_degreeOf_25 : decode cX9_degreeOf 25 = .ok (.aload_n 0, 1) := by decide +kernel
theorem dX9_degreeOf_26 : decode cX9_degreeOf 26 = .ok (.getfield 64, 3) := by decide +kernel
theorem dX9_degreeOf_29 : decode cX9_degreeOf 29 = .ok (.bipush 8, 2) := by decide +kernel
theorem dX9_degreeOf_31 : decode cX9_degreeOf 31 = .ok (.iload_n 1, 1) := by decide +kernel
theorem dX9_degreeOf_32 : decode cX9_degreeOf 32 = .ok (.imul, 1) := by decide +kernel
theorem dX9_degreeOf_33 : decode cX9_degreeOf 33 = .ok (.aload_n 0, 1) := by decide +kernel
theorem dX9_degreeOf_34 : decode cX9_degreeOf 34 = .ok (.iload_n 3, 1) := by decide +kernel
theorem dX9_degreeOf_35 : decode cX9_degreeOf 35 = .ok (.invokevirtual 215, 3) := by decide +kernel
theorem dX9_degreeOf_38 : decode cX9_degreeOf 38 = .ok (.iadd, 1) := by decide +kernel
theorem dX9_degreeOf_39 : decode cX9_degreeOf 39 = .ok (.iaload, 1) := by decide +kernel
theorem dX9_degreeOf_40 : decode cX9_degreeOf 40 = .ok (.imul, 1) := by decide +kernel
theorem dX9_degreeOf_41 : decode cX9_degreeOf 41 = .ok (.aload_n 0, 1) := by decide +kernel
theorem dX9_degreeOf_42 : decode cX9_degreeOf 42 = .ok (.getfield 37, 3) := by decide +kernel
theorem dX9_degreeOf_45 : decode cX9_degreeOf 45 = .ok (.iload_n 3, 1) := by decide +kernel
theorem dX9_degreeOf_46 : decode cX9_degreeOf 46 = .ok (.iaload, 1) := by decide +kernel
theorem dX9_degreeOf_47 : decode cX9_degreeOf 47 = .ok (.invokevirtual 195, 3) := by decide +kernel
theorem dX9_degreeOf_50 : decode cX9_degreeOf 50 = .ok (.iadd, 1) := by decide +kernel
theorem dX9_degreeOf_51 : decode cX9_degreeOf 51 = .ok (.istore_n 2, 1) := by decide +kernel
theorem dX9_degreeOf_52 : decode cX9_degreeOf 52 = .ok (.iinc 3 1, 3) := by decide +kernel
theorem dX9_degreeOf_55 : decode cX9_degreeOf 55 = .ok (.goto (-51), 3) := by decide +kernel
theorem dX9_degreeOf_58 : decode cX9_degreeOf 58 = .ok (.iconst 1, 1) := by decide +kernel
theorem dX9_degreeOf_59 : decode cX9_degreeOf 59 = .ok (.istore_n 3, 1) := by decide +kernel
theorem dX9_degreeOf_60 : decode cX9_degreeOf 60 = .ok (.iload_n 3, 1) := by decide +kernel
theorem dX9_degreeOf_61 : decode cX9_degreeOf 61 = .ok (.iload_n 3, 1) := by decide +kernel
theorem dX9_degreeOf_62 : decode cX9_degreeOf 62 = .ok (.imul, 1) := by decide +kernel
theorem dX9_degreeOf_63 : decode cX9_degreeOf 63 = .ok (.aload_n 0, 1) := by decide +kernel
theorem dX9_degreeOf_64 : decode cX9_degreeOf 64 = .ok (.getfield 127, 3) := by decide +kernel
theorem dX9_degreeOf_67 : decode cX9_degreeOf 67 = .ok (.if_icmp .gt 33, 3) := by decide +kernel
theorem dX9_degreeOf_70 : decode cX9_degreeOf 70 = .ok (.aload_n 0, 1) := by decide +kernel
theorem dX9_degreeOf_71 : decode cX9_degreeOf 71 = .ok (.iload_n 3, 1) := by decide +kernel
theorem dX9_degreeOf_72 : decode cX9_degreeOf 72 = .ok (.iload_n 3, 1) := by decide +kernel
theorem dX9_degreeOf_73 : decode cX9_degreeOf 73 = .ok (.imul, 1) := by decide +kernel
theorem dX9_degreeOf_74 : decode cX9_degreeOf 74 = .ok (.aload_n 0, 1) := by decide +kernel
theorem dX9_degreeOf_75 : decode cX9_degreeOf 75 = .ok (.iload_n 2, 1) := by decide +kernel
theorem dX9_degreeOf_76 : decode cX9_degreeOf 76 = .ok (.invokevirtual 188, 3) := by decide +kernel
theorem dX9_degreeOf_79 : decode cX9_degreeOf 79 = .ok (.imul, 1) := by decide +kernel
theorem dX9_degreeOf_80 : decode cX9_degreeOf 80 = .ok (.invokevirtual 188, 3) := by decide +kernel
theorem dX9_degreeOf_83 : decode cX9_degreeOf 83 = .ok (.aload_n 0, 1) := by decide +kernel
theorem dX9_degreeOf_84 : decode cX9_degreeOf 84 = .ok (.aload_n 0, 1) := by decide +kernel
theorem dX9_degreeOf_85 : decode cX9_degreeOf 85 = .ok (.getfield 127, 3) := by decide +kernel
theorem dX9_degreeOf_88 : decode cX9_degreeOf 88 = .ok (.invokevirtual 188, 3) := by decide +kernel
theorem dX9_degreeOf_91 : decode cX9_degreeOf 91 = .ok (.if_icmp .eq 9, 3) := by decide +kernel
theorem dX9_degreeOf_94 : decode cX9_degreeOf 94 = .ok (.iinc 3 1, 3) := by decide +kernel
theorem dX9_degreeOf_97 : decode cX9_degreeOf 97 = .ok (.goto (-37), 3) := by decide +kernel
theorem dX9_degreeOf_100 : decode cX9_degreeOf 100 = .ok (.iload_n 3, 1) := by decide +kernel
theorem dX9_degreeOf_101 : decode cX9_degreeOf 101 = .ok (.ireturn, 1) := by decide +kernel
theorem dX9_findRows_0 : decode cX9_findRows 0 = .ok (.iconst 0, 1) := by decide +kernel
theorem dX9_findRows_1 : decode cX9_findRows 1 = .ok (.istore_n 1, 1) := by decide +kernel
theorem dX9_findRows_2 : decode cX9_findRows 2 = .ok (.iload_n 1, 1) := by decide +kernel
theorem dX9_findRows_3 : decode cX9_findRows 3 = .ok (.aload_n 0, 1) := by decide +kernel
theorem dX9_findRows_4 : decode cX9_findRows 4 = .ok (.getfield 143, 3) := by decide +kernel
theorem dX9_findRows_7 : decode cX9_findRows 7 = .ok (.if_icmp .ge 126, 3) := by decide +kernel
theorem dX9_findRows_10 : decode cX9_findRows 10 = .ok (.iconst 0, 1) := by decide +kernel
theorem dX9_findRows_11 : decode cX9_findRows 11 = .ok (.istore_n 2, 1) := by decide +kernel
theorem dX9_findRows_12 : decode cX9_findRows 12 = .ok (.iload_n 2, 1) := by decide +kernel
theorem dX9_findRows_13 : decode cX9_findRows 13 = .ok (.aload_n 0, 1) := by decide +kernel
theorem dX9_findRows_14 : decode cX9_findRows 14 = .ok (.getfield 143, 3) := by decide +kernel
theorem dX9_findRows_17 : decode cX9_findRows 17 = .ok (.if_icmp .ge 44, 3) := by decide +kernel
theorem dX9_findRows_20 : decode cX9_findRows 20 = .ok (.aload_n 0, 1) := by decide +kernel
theorem dX9_findRows_21 : decode cX9_findRows 21 = .ok (.getfield 64, 3) := by decide +kernel
theorem dX9_findRows_24 : decode cX9_findRows 24 = .ok (.bipush 8, 2) := by decide +kernel
theorem dX9_findRows_26 : decode cX9_findRows 26 = .ok (.iload_n 1, 1) := by decide +kernel
theorem dX9_findRows_27 : decode cX9_findRows 27 = .ok (.imul, 1) := by decide +kernel
theorem dX9_findRows_28 : decode cX9_findRows 28 = .ok (.iload_n 2, 1) := by decide +kernel
theorem dX9_findRows_29 : decode cX9_findRows 29 = .ok (.iadd, 1) := by decide +kernel
theorem dX9_findRows_30 : decode cX9_findRows 30 = .ok (.aload_n 0, 1) := by decide +kernel
theorem dX9_findRows_31 : decode cX9_findRows 31 = .ok (.aload_n 0, 1) := by decide +kernel
theorem dX9_findRows_32 : decode cX9_findRows 32 = .ok (.getfield 49, 3) := by decide +kernel
theorem dX9_findRows_35 : decode cX9_findRows 35 = .ok (.bipush 64, 2) := by decide +kernel
theorem dX9_findRows_37 : decode cX9_findRows 37 = .ok (.iload_n 1, 1) := by decide +kernel
theorem dX9_findRows_38 : decode cX9_findRows 38 = .ok (.imul, 1) := by decide +kernel
theorem dX9_findRows_39 : decode cX9_findRows 39 = .ok (.iload_n 2, 1) := by decide +kernel
theorem dX9_findRows_40 : decode cX9_findRows 40 = .ok (.iadd, 1) := by decide +kernel
theorem dX9_findRows_41 : decode cX9_findRows 41 = .ok (.iaload, 1) := by decide +kernel
theorem dX9_findRows_42 : decode cX9_findRows 42 = .ok (.aload_n 0, 1) := by decide +kernel
theorem dX9_findRows_43 : decode cX9_findRows 43 = .ok (.getfield 49, 3) := by decide +kernel
theorem dX9_findRows_46 : decode cX9_findRows 46 = .ok (.bipush 64, 2) := by decide +kernel
theorem dX9_findRows_48 : decode cX9_findRows 48 = .ok (.iload_n 1, 1) := by decide +kernel
theorem dX9_findRows_49 : decode cX9_findRows 49 = .ok (.imul, 1) := by decide +kernel
theorem dX9_findRows_50 : decode cX9_findRows 50 = .ok (.iaload, 1) := by decide +kernel
theorem dX9_findRows_51 : decode cX9_findRows 51 = .ok (.invokevirtual 195, 3) := by decide +kernel
theorem dX9_findRows_54 : decode cX9_findRows 54 = .ok (.iastore, 1) := by decide +kernel
theorem dX9_findRows_55 : decode cX9_findRows 55 = .ok (.iinc 2 1, 3) := by decide +kernel
theorem dX9_findRows_58 : decode cX9_findRows 58 = .ok (.goto (-46), 3) := by decide +kernel
theorem dX9_findRows_61 : decode cX9_findRows 61 = .ok (.aload_n 0, 1) := by decide +kernel
theorem dX9_findRows_62 : decode cX9_findRows 62 = .ok (.getfield 67, 3) := by decide +kernel
theorem dX9_findRows_65 : decode cX9_findRows 65 = .ok (.iload_n 1, 1) := by decide +kernel
theorem dX9_findRows_66 : decode cX9_findRows 66 = .ok (.aload_n 0, 1) := by decide +kernel
theorem dX9_findRows_67 : decode cX9_findRows 67 = .ok (.iload_n 1, 1) := by decide +kernel
theorem dX9_findRows_68 : decode cX9_findRows 68 = .ok (.invokevirtual 218, 3) := by decide +kernel
theorem dX9_findRows_71 : decode cX9_findRows 71 = .ok (.iastore, 1) := by decide +kernel
theorem dX9_findRows_72 : decode cX9_findRows 72 = .ok (.iconst 0, 1) := by decide +kernel
theorem dX9_findRows_73 : decode cX9_findRows 73 = .ok (.istore_n 2, 1) := by decide +kernel
theorem dX9_findRows_74 : decode cX9_findRows 74 = .ok (.iload_n 2, 1) := by decide +kernel
theorem dX9_findRows_75 : decode cX9_findRows 75 = .ok (.aload_n 0, 1) := by decide +kernel
theorem dX9_findRows_76 : decode cX9_findRows 76 = .ok (.getfield 143, 3) := by decide +kernel
theorem dX9_findRows_79 : decode cX9_findRows 79 = .ok (.if_icmp .ge 48, 3) := by decide +kernel
theorem dX9_findRows_82 : decode cX9_findRows 82 = .ok (.aload_n 0, 1) := by decide +kernel
theorem dX9_findRows_83 : decode cX9_findRows 83 = .ok (.getfield 70, 3) := by decide +kernel
theorem dX9_findRows_86 : decode cX9_findRows 86 = .ok (.bipush 8, 2) := by decide +kernel
theorem dX9_findRows_88 : decode cX9_findRows 88 = .ok (.iload_n 1, 1) := by decide +kernel
theorem dX9_findRows_89 : decode cX9_findRows 89 = .ok (.imul, 1) := by decide +kernel
theorem dX9_findRows_90 : decode cX9_findRows 90 = .ok (.iload_n 2, 1) := by decide +kernel
theorem dX9_findRows_91 : decode cX9_findRows 91 = .ok (.iadd, 1) := by decide +kernel
theorem dX9_findRows_92 : decode cX9_findRows 92 = .ok (.aload_n 0, 1) := by decide +kernel
theorem dX9_findRows_93 : decode cX9_findRows 93 = .ok (.aload_n 0, 1) := by decide +kernel
theorem dX9_findRows_94 : decode cX9_findRows 94 = .ok (.getfield 67, 3) := by decide +kernel
theorem dX9_findRows_97 : decode cX9_findRows 97 = .ok (.iload_n 1, 1) := by decide +kernel
theorem dX9_findRows_98 : decode cX9_findRows 98 = .ok (.iaload, 1) := by decide +kernel
theorem dX9_findRows_99 : decode cX9_findRows 99 = .ok (.aload_n 0, 1) := by decide +kernel
theorem dX9_findRows_100 : decode cX9_findRows 100 = .ok (.getfield 64, 3) := by decide +kernel
theorem dX9_findRows_103 : decode cX9_findRows 103 = .ok (.bipush 8, 2) := by decide +kernel
theorem dX9_findRows_105 : decode cX9_findRows 105 = .ok (.iload_n 1, 1) := by decide +kernel
theorem dX9_findRows_106 : decode cX9_findRows 106 = .ok (.imul, 1) := by decide +kernel
theorem dX9_findRows_107 : decode cX9_findRows 107 = .ok (.iload_n 2, 1) := by decide +kernel
theorem dX9_findRows_108 : decode cX9_findRows 108 = .ok (.iadd, 1) := by decide +kernel
theorem dX9_findRows_109 : decode cX9_findRows 109 = .ok (.iaload, 1) := by decide +kernel
theorem dX9_findRows_110 : decode cX9_findRows 110 = .ok (.imul, 1) := by decide +kernel
theorem dX9_findRows_111 : decode cX9_findRows 111 = .ok (.aload_n 0, 1) := by decide +kernel
theorem dX9_findRows_112 : decode cX9_findRows 112 = .ok (.getfield 37, 3) := by decide +kernel
theorem dX9_findRows_115 : decode cX9_findRows 115 = .ok (.iload_n 2, 1) := by decide +kernel
theorem dX9_findRows_116 : decode cX9_findRows 116 = .ok (.iaload, 1) := by decide +kernel
theorem dX9_findRows_117 : decode cX9_findRows 117 = .ok (.invokevirtual 195, 3) := by decide +kernel
theorem dX9_findRows_120 : decode cX9_findRows 120 = .ok (.iastore, 1) := by decide +kernel
theorem dX9_findRows_121 : decode cX9_findRows 121 = .ok (.iinc 2 1, 3) := by decide +kernel
theorem dX9_findRows_124 : decode cX9_findRows 124 = .ok (.goto (-50), 3) := by decide +kernel
theorem dX9_findRows_127 : decode cX9_findRows 127 = .ok (.iinc 1 1, 3) := by decide +kernel
theorem dX9_findRows_130 : decode cX9_findRows 130 = .ok (.goto (-128), 3) := by decide +kernel
theorem dX9_findRows_133 : decode cX9_findRows 133 = .ok (.iconst 1, 1) := by decide +kernel
theorem dX9_findRows_134 : decode cX9_findRows 134 = .ok (.istore_n 1, 1) := by decide +kernel
theorem dX9_findRows_135 : decode cX9_findRows 135 = .ok (.iload_n 1, 1) := by decide +kernel
theorem dX9_findRows_136 : decode cX9_findRows 136 = .ok (.aload_n 0, 1) := by decide +kernel
theorem dX9_findRows_137 : decode cX9_findRows 137 = .ok (.getfield 143, 3) := by decide +kernel
theorem dX9_findRows_140 : decode cX9_findRows 140 = .ok (.if_icmp .ge 37, 3) := by decide +kernel
theorem dX9_findRows_143 : decode cX9_findRows 143 = .ok (.iload_n 1, 1) := by decide +kernel
theorem dX9_findRows_144 : decode cX9_findRows 144 = .ok (.istore_n 2, 1) := by decide +kernel
theorem dX9_findRows_145 : decode cX9_findRows 145 = .ok (.iload_n 2, 1) := by decide +kernel
theorem dX9_findRows_146 : decode cX9_findRows 146 = .ok (.ifCond .le 25, 3) := by decide +kernel
theorem dX9_findRows_149 : decode cX9_findRows 149 = .ok (.aload_n 0, 1) := by decide +kernel
theorem dX9_findRows_150 : decode cX9_findRows 150 = .ok (.iload_n 2, 1) := by decide +kernel
theorem dX9_findRows_151 : decode cX9_findRows 151 = .ok (.iload_n 2, 1) := by decide +kernel
theorem dX9_findRows_152 : decode cX9_findRows 152 = .ok (.iconst 1, 1) := by decide +kernel
theorem dX9_findRows_153 : decode cX9_findRows 153 = .ok (.isub, 1) := by decide +kernel
theorem dX9_findRows_154 : decode cX9_findRows 154 = .ok (.invokevirtual 221, 3) := by decide +kernel
theorem dX9_findRows_157 : decode cX9_findRows 157 = .ok (.ifCond .eq 14, 3) := by decide +kernel
theorem dX9_findRows_160 : decode cX9_findRows 160 = .ok (.aload_n 0, 1) := by decide +kernel
theorem dX9_findRows_161 : decode cX9_findRows 161 = .ok (.iload_n 2, 1) := by decide +kernel
theorem dX9_findRows_162 : decode cX9_findRows 162 = .ok (.invokevirtual 225, 3) := by decide +kernel
theorem dX9_findRows_165 : decode cX9_findRows 165 = .ok (.iinc 2 (-1), 3) := by decide +kernel
theorem dX9_findRows_168 : decode cX9_findRows 168 = .ok (.goto (-23), 3) := by decide +kernel
theorem dX9_findRows_171 : decode cX9_findRows 171 = .ok (.iinc 1 1, 3) := by decide +kernel
theorem dX9_findRows_174 : decode cX9_findRows 174 = .ok (.goto (-39), 3) := by decide +kernel
theorem dX9_findRows_177 : decode cX9_findRows 177 = .ok (.return_, 1) := by decide +kernel
theorem dX9_isAhead_0 : decode cX9_isAhead 0 = .ok (.iconst 1, 1) := by decide +kernel
theorem dX9_isAhead_1 : decode cX9_isAhead 1 = .ok (.istore_n 3, 1) := by decide +kernel
theorem dX9_isAhead_2 : decode cX9_isAhead 2 = .ok (.aload_n 0, 1) := by decide +kernel
theorem dX9_isAhead_3 : decode cX9_isAhead 3 = .ok (.getfield 67, 3) := by decide +kernel
theorem dX9_isAhead_6 : decode cX9_isAhead 6 = .ok (.iload_n 1, 1) := by decide +kernel
theorem dX9_isAhead_7 : decode cX9_isAhead 7 = .ok (.iaload, 1) := by decide +kernel
theorem dX9_isAhead_8 : decode cX9_isAhead 8 = .ok (.aload_n 0, 1) := by decide +kernel
theorem dX9_isAhead_9 : decode cX9_isAhead 9 = .ok (.getfield 67, 3) := by decide +kernel
theorem dX9_isAhead_12 : decode cX9_isAhead 12 = .ok (.iload_n 2, 1) := by decide +kernel
theorem dX9_isAhead_13 : decode cX9_isAhead 13 = .ok (.iaload, 1) := by decide +kernel
theorem dX9_isAhead_14 : decode cX9_isAhead 14 = .ok (.if_icmp .eq 24, 3) := by decide +kernel
theorem dX9_isAhead_17 : decode cX9_isAhead 17 = .ok (.aload_n 0, 1) := by decide +kernel
theorem dX9_isAhead_18 : decode cX9_isAhead 18 = .ok (.getfield 67, 3) := by decide +kernel
theorem dX9_isAhead_21 : decode cX9_isAhead 21 = .ok (.iload_n 1, 1) := by decide +kernel
theorem dX9_isAhead_22 : decode cX9_isAhead 22 = .ok (.iaload, 1) := by decide +kernel
theorem dX9_isAhead_23 : decode cX9_isAhead 23 = .ok (.aload_n 0, 1) := by decide +kernel
theorem dX9_isAhead_24 : decode cX9_isAhead 24 = .ok (.getfield 67, 3) := by decide +kernel
theorem dX9_isAhead_27 : decode cX9_isAhead 27 = .ok (.iload_n 2, 1) := by decide +kernel
theorem dX9_isAhead_28 : decode cX9_isAhead 28 = .ok (.iaload, 1) := by decide +kernel
theorem dX9_isAhead_29 : decode cX9_isAhead 29 = .ok (.if_icmp .ge 7, 3) := by decide +kernel
theorem dX9_isAhead_32 : decode cX9_isAhead 32 = .ok (.iconst 1, 1) := by decide +kernel
theorem dX9_isAhead_33 : decode cX9_isAhead 33 = .ok (.goto 4, 3) := by decide +kernel
theorem dX9_isAhead_36 : decode cX9_isAhead 36 = .ok (.iconst 0, 1) := by decide +kernel
theorem dX9_isAhead_37 : decode cX9_isAhead 37 = .ok (.ireturn, 1) := by decide +kernel
theorem dX9_isAhead_38 : decode cX9_isAhead 38 = .ok (.iload_n 3, 1) := by decide +kernel
theorem dX9_isAhead_39 : decode cX9_isAhead 39 = .ok (.aload_n 0, 1) := by decide +kernel
theorem dX9_isAhead_40 : decode cX9_isAhead 40 = .ok (.getfield 143, 3) := by decide +kernel
theorem dX9_isAhead_43 : decode cX9_isAhead 43 = .ok (.if_icmp .ge 34, 3) := by decide +kernel
theorem dX9_isAhead_46 : decode cX9_isAhead 46 = .ok (.aload_n 0, 1) := by decide +kernel
theorem dX9_isAhead_47 : decode cX9_isAhead 47 = .ok (.getfield 70, 3) := by decide +kernel
theorem dX9_isAhead_50 : decode cX9_isAhead 50 = .ok (.bipush 8, 2) := by decide +kernel
theorem dX9_isAhead_52 : decode cX9_isAhead 52 = .ok (.iload_n 1, 1) := by decide +kernel
theorem dX9_isAhead_53 : decode cX9_isAhead 53 = .ok (.imul, 1) := by decide +kernel
theorem dX9_isAhead_54 : decode cX9_isAhead 54 = .ok (.iload_n 3, 1) := by decide +kernel
theorem dX9_isAhead_55 : decode cX9_isAhead 55 = .ok (.iadd, 1) := by decide +kernel
theorem dX9_isAhead_56 : decode cX9_isAhead 56 = .ok (.iaload, 1) := by decide +kernel
theorem dX9_isAhead_57 : decode cX9_isAhead 57 = .ok (.aload_n 0, 1) := by decide +kernel
theorem dX9_isAhead_58 : decode cX9_isAhead 58 = .ok (.getfield 70, 3) := by decide +kernel
theorem dX9_isAhead_61 : decode cX9_isAhead 61 = .ok (.bipush 8, 2) := by decide +kernel
theorem dX9_isAhead_63 : decode cX9_isAhead 63 = .ok (.iload_n 2, 1) := by decide +kernel
theorem dX9_isAhead_64 : decode cX9_isAhead 64 = .ok (.imul, 1) := by decide +kernel
theorem dX9_isAhead_65 : decode cX9_isAhead 65 = .ok (.iload_n 3, 1) := by decide +kernel
theorem dX9_isAhead_66 : decode cX9_isAhead 66 = .ok (.iadd, 1) := by decide +kernel
theorem dX9_isAhead_67 : decode cX9_isAhead 67 = .ok (.iaload, 1) := by decide +kernel
theorem dX9_isAhead_68 : decode cX9_isAhead 68 = .ok (.if_icmp .ne 9, 3) := by decide +kernel
theorem dX9_isAhead_71 : decode cX9_isAhead 71 = .ok (.iinc 3 1, 3) := by decide +kernel
theorem dX9_isAhead_74 : decode cX9_isAhead 74 = .ok (.goto (-36), 3) := by decide +kernel
theorem dX9_isAhead_77 : decode cX9_isAhead 77 = .ok (.iload_n 3, 1) := by decide +kernel
theorem dX9_isAhead_78 : decode cX9_isAhead 78 = .ok (.aload_n 0, 1) := by decide +kernel
theorem dX9_isAhead_79 : decode cX9_isAhead 79 = .ok (.getfield 143, 3) := by decide +kernel
theorem dX9_isAhead_82 : decode cX9_isAhead 82 = .ok (.if_icmp .ge 32, 3) := by decide +kernel
theorem dX9_isAhead_85 : decode cX9_isAhead 85 = .ok (.aload_n 0, 1) := by decide +kernel
theorem dX9_isAhead_86 : decode cX9_isAhead 86 = .ok (.getfield 70, 3) := by decide +kernel
theorem dX9_isAhead_89 : decode cX9_isAhead 89 = .ok (.bipush 8, 2) := by decide +kernel
theorem dX9_isAhead_91 : decode cX9_isAhead 91 = .ok (.iload_n 1, 1) := by decide +kernel
theorem dX9_isAhead_92 : decode cX9_isAhead 92 = .ok (.imul, 1) := by decide +kernel
theorem dX9_isAhead_93 : decode cX9_isAhead 93 = .ok (.iload_n 3, 1) := by decide +kernel
theorem dX9_isAhead_94 : decode cX9_isAhead 94 = .ok (.iadd, 1) := by decide +kernel
theorem dX9_isAhead_95 : decode cX9_isAhead 95 = .ok (.iaload, 1) := by decide +kernel
theorem dX9_isAhead_96 : decode cX9_isAhead 96 = .ok (.aload_n 0, 1) := by decide +kernel
theorem dX9_isAhead_97 : decode cX9_isAhead 97 = .ok (.getfield 70, 3) := by decide +kernel
theorem dX9_isAhead_100 : decode cX9_isAhead 100 = .ok (.bipush 8, 2) := by decide +kernel
theorem dX9_isAhead_102 : decode cX9_isAhead 102 = .ok (.iload_n 2, 1) := by decide +kernel
theorem dX9_isAhead_103 : decode cX9_isAhead 103 = .ok (.imul, 1) := by decide +kernel
theorem dX9_isAhead_104 : decode cX9_isAhead 104 = .ok (.iload_n 3, 1) := by decide +kernel
theorem dX9_isAhead_105 : decode cX9_isAhead 105 = .ok (.iadd, 1) := by decide +kernel
theorem dX9_isAhead_106 : decode cX9_isAhead 106 = .ok (.iaload, 1) := by decide +kernel
theorem dX9_isAhead_107 : decode cX9_isAhead 107 = .ok (.if_icmp .ge 7, 3) := by decide +kernel
theorem dX9_isAhead_110 : decode cX9_isAhead 110 = .ok (.iconst 1, 1) := by decide +kernel
theorem dX9_isAhead_111 : decode cX9_isAhead 111 = .ok (.goto 4, 3) := by decide +kernel
theorem dX9_isAhead_114 : decode cX9_isAhead 114 = .ok (.iconst 0, 1) := by decide +kernel
theorem dX9_isAhead_115 : decode cX9_isAhead 115 = .ok (.ireturn, 1) := by decide +kernel
theorem dX9_exchange_0 : decode cX9_exchange 0 = .ok (.aload_n 0, 1) := by decide +kernel
theorem dX9_exchange_1 : decode cX9_exchange 1 = .ok (.getfield 67, 3) := by decide +kernel
theorem dX9_exchange_4 : decode cX9_exchange 4 = .ok (.iload_n 1, 1) := by decide +kernel
theorem dX9_exchange_5 : decode cX9_exchange 5 = .ok (.iaload, 1) := by decide +kernel
theorem dX9_exchange_6 : decode cX9_exchange 6 = .ok (.istore_n 2, 1) := by decide +kernel
theorem dX9_exchange_7 : decode cX9_exchange 7 = .ok (.aload_n 0, 1) := by decide +kernel
theorem dX9_exchange_8 : decode cX9_exchange 8 = .ok (.getfield 67, 3) := by decide +kernel
theorem dX9_exchange_11 : decode cX9_exchange 11 = .ok (.iload_n 1, 1) := by decide +kernel
theorem dX9_exchange_12 : decode cX9_exchange 12 = .ok (.aload_n 0, 1) := by decide +kernel
theorem dX9_exchange_13 : decode cX9_exchange 13 = .ok (.getfield 67, 3) := by decide +kernel
theorem dX9_exchange_16 : decode cX9_exchange 16 = .ok (.iload_n 1, 1) := by decide +kernel
theorem dX9_exchange_17 : decode cX9_exchange 17 = .ok (.iconst 1, 1) := by decide +kernel
theorem dX9_exchange_18 : decode cX9_exchange 18 = .ok (.isub, 1) := by decide +kernel
theorem dX9_exchange_19 : decode cX9_exchange 19 = .ok (.iaload, 1) := by decide +kernel
theorem dX9_exchange_20 : decode cX9_exchange 20 = .ok (.iastore, 1) := by decide +kernel
theorem dX9_exchange_21 : decode cX9_exchange 21 = .ok (.aload_n 0, 1) := by decide +kernel
theorem dX9_exchange_22 : decode cX9_exchange 22 = .ok (.getfield 67, 3) := by decide +kernel
theorem dX9_exchange_25 : decode cX9_exchange 25 = .ok (.iload_n 1, 1) := by decide +kernel
theorem dX9_exchange_26 : decode cX9_exchange 26 = .ok (.iconst 1, 1) := by decide +kernel
theorem dX9_exchange_27 : decode cX9_exchange 27 = .ok (.isub, 1) := by decide +kernel
theorem dX9_exchange_28 : decode cX9_exchange 28 = .ok (.iload_n 2, 1) := by decide +kernel
theorem dX9_exchange_29 : decode cX9_exchange 29 = .ok (.iastore, 1) := by decide +kernel
theorem dX9_exchange_30 : decode cX9_exchange 30 = .ok (.iconst 0, 1) := by decide +kernel
theorem dX9_exchange_31 : decode cX9_exchange 31 = .ok (.istore_n 3, 1) := by decide +kernel
theorem dX9_exchange_32 : decode cX9_exchange 32 = .ok (.iload_n 3, 1) := by decide +kernel
theorem dX9_exchange_33 : decode cX9_exchange 33 = .ok (.aload_n 0, 1) := by decide +kernel
theorem dX9_exchange_34 : decode cX9_exchange 34 = .ok (.getfield 143, 3) := by decide +kernel
theorem dX9_exchange_37 : decode cX9_exchange 37 = .ok (.if_icmp .ge 117, 3) := by decide +kernel
theorem dX9_exchange_40 : decode cX9_exchange 40 = .ok (.aload_n 0, 1) := by decide +kernel
theorem dX9_exchange_41 : decode cX9_exchange 41 = .ok (.getfield 70, 3) := by decide +kernel
theorem dX9_exchange_44 : decode cX9_exchange 44 = .ok (.bipush 8, 2) := by decide +kernel
theorem dX9_exchange_46 : decode cX9_exchange 46 = .ok (.iload_n 1, 1) := by decide +kernel
theorem dX9_exchange_47 : decode cX9_exchange 47 = .ok (.imul, 1) := by decide +kernel
theorem dX9_exchange_48 : decode cX9_exchange 48 = .ok (.iload_n 3, 1) := by decide +kernel
theorem dX9_exchange_49 : decode cX9_exchange 49 = .ok (.iadd, 1) := by decide +kernel
theorem dX9_exchange_50 : decode cX9_exchange 50 = .ok (.iaload, 1) := by decide +kernel
theorem dX9_exchange_51 : decode cX9_exchange 51 = .ok (.istore 4, 2) := by decide +kernel
theorem dX9_exchange_53 : decode cX9_exchange 53 = .ok (.aload_n 0, 1) := by decide +kernel
theorem dX9_exchange_54 : decode cX9_exchange 54 = .ok (.getfield 70, 3) := by decide +kernel
theorem dX9_exchange_57 : decode cX9_exchange 57 = .ok (.bipush 8, 2) := by decide +kernel
theorem dX9_exchange_59 : decode cX9_exchange 59 = .ok (.iload_n 1, 1) := by decide +kernel
theorem dX9_exchange_60 : decode cX9_exchange 60 = .ok (.imul, 1) := by decide +kernel
theorem dX9_exchange_61 : decode cX9_exchange 61 = .ok (.iload_n 3, 1) := by decide +kernel
theorem dX9_exchange_62 : decode cX9_exchange 62 = .ok (.iadd, 1) := by decide +kernel
theorem dX9_exchange_63 : decode cX9_exchange 63 = .ok (.aload_n 0, 1) := by decide +kernel
theorem dX9_exchange_64 : decode cX9_exchange 64 = .ok (.getfield 70, 3) := by decide +kernel
theorem dX9_exchange_67 : decode cX9_exchange 67 = .ok (.bipush 8, 2) := by decide +kernel
theorem dX9_exchange_69 : decode cX9_exchange 69 = .ok (.iload_n 1, 1) := by decide +kernel
theorem dX9_exchange_70 : decode cX9_exchange 70 = .ok (.imul, 1) := by decide +kernel
theorem dX9_exchange_71 : decode cX9_exchange 71 = .ok (.bipush 8, 2) := by decide +kernel
theorem dX9_exchange_73 : decode cX9_exchange 73 = .ok (.isub, 1) := by decide +kernel
theorem dX9_exchange_74 : decode cX9_exchange 74 = .ok (.iload_n 3, 1) := by decide +kernel
theorem dX9_exchange_75 : decode cX9_exchange 75 = .ok (.iadd, 1) := by decide +kernel
theorem dX9_exchange_76 : decode cX9_exchange 76 = .ok (.iaload, 1) := by decide +kernel
theorem dX9_exchange_77 : decode cX9_exchange 77 = .ok (.iastore, 1) := by decide +kernel
theorem dX9_exchange_78 : decode cX9_exchange 78 = .ok (.aload_n 0, 1) := by decide +kernel
theorem dX9_exchange_79 : decode cX9_exchange 79 = .ok (.getfield 70, 3) := by decide +kernel
theorem dX9_exchange_82 : decode cX9_exchange 82 = .ok (.bipush 8, 2) := by decide +kernel
theorem dX9_exchange_84 : decode cX9_exchange 84 = .ok (.iload_n 1, 1) := by decide +kernel
theorem dX9_exchange_85 : decode cX9_exchange 85 = .ok (.imul, 1) := by decide +kernel
theorem dX9_exchange_86 : decode cX9_exchange 86 = .ok (.bipush 8, 2) := by decide +kernel
theorem dX9_exchange_88 : decode cX9_exchange 88 = .ok (.isub, 1) := by decide +kernel
theorem dX9_exchange_89 : decode cX9_exchange 89 = .ok (.iload_n 3, 1) := by decide +kernel
theorem dX9_exchange_90 : decode cX9_exchange 90 = .ok (.iadd, 1) := by decide +kernel
theorem dX9_exchange_91 : decode cX9_exchange 91 = .ok (.iload 4, 2) := by decide +kernel
theorem dX9_exchange_93 : decode cX9_exchange 93 = .ok (.iastore, 1) := by decide +kernel
theorem dX9_exchange_94 : decode cX9_exchange 94 = .ok (.aload_n 0, 1) := by decide +kernel
theorem dX9_exchange_95 : decode cX9_exchange 95 = .ok (.getfield 64, 3) := by decide +kernel
theorem dX9_exchange_98 : decode cX9_exchange 98 = .ok (.bipush 8, 2) := by decide +kernel
theorem dX9_exchange_100 : decode cX9_exchange 100 = .ok (.iload_n 1, 1) := by decide +kernel
theorem dX9_exchange_101 : decode cX9_exchange 101 = .ok (.imul, 1) := by decide +kernel
theorem dX9_exchange_102 : decode cX9_exchange 102 = .ok (.iload_n 3, 1) := by decide +kernel
theorem dX9_exchange_103 : decode cX9_exchange 103 = .ok (.iadd, 1) := by decide +kernel
theorem dX9_exchange_104 : decode cX9_exchange 104 = .ok (.iaload, 1) := by decide +kernel
theorem dX9_exchange_105 : decode cX9_exchange 105 = .ok (.istore 5, 2) := by decide +kernel
theorem dX9_exchange_107 : decode cX9_exchange 107 = .ok (.aload_n 0, 1) := by decide +kernel
theorem dX9_exchange_108 : decode cX9_exchange 108 = .ok (.getfield 64, 3) := by decide +kernel
theorem dX9_exchange_111 : decode cX9_exchange 111 = .ok (.bipush 8, 2) := by decide +kernel
theorem dX9_exchange_113 : decode cX9_exchange 113 = .ok (.iload_n 1, 1) := by decide +kernel
theorem dX9_exchange_114 : decode cX9_exchange 114 = .ok (.imul, 1) := by decide +kernel
theorem dX9_exchange_115 : decode cX9_exchange 115 = .ok (.iload_n 3, 1) := by decide +kernel
theorem dX9_exchange_116 : decode cX9_exchange 116 = .ok (.iadd, 1) := by decide +kernel
theorem dX9_exchange_117 : decode cX9_exchange 117 = .ok (.aload_n 0, 1) := by decide +kernel
theorem dX9_exchange_118 : decode cX9_exchange 118 = .ok (.getfield 64, 3) := by decide +kernel
theorem dX9_exchange_121 : decode cX9_exchange 121 = .ok (.bipush 8, 2) := by decide +kernel
theorem dX9_exchange_123 : decode cX9_exchange 123 = .ok (.iload_n 1, 1) := by decide +kernel
theorem dX9_exchange_124 : decode cX9_exchange 124 = .ok (.imul, 1) := by decide +kernel
theorem dX9_exchange_125 : decode cX9_exchange 125 = .ok (.bipush 8, 2) := by decide +kernel
theorem dX9_exchange_127 : decode cX9_exchange 127 = .ok (.isub, 1) := by decide +kernel
theorem dX9_exchange_128 : decode cX9_exchange 128 = .ok (.iload_n 3, 1) := by decide +kernel
theorem dX9_exchange_129 : decode cX9_exchange 129 = .ok (.iadd, 1) := by decide +kernel
theorem dX9_exchange_130 : decode cX9_exchange 130 = .ok (.iaload, 1) := by decide +kernel
theorem dX9_exchange_131 : decode cX9_exchange 131 = .ok (.iastore, 1) := by decide +kernel
theorem dX9_exchange_132 : decode cX9_exchange 132 = .ok (.aload_n 0, 1) := by decide +kernel
theorem dX9_exchange_133 : decode cX9_exchange 133 = .ok (.getfield 64, 3) := by decide +kernel
theorem dX9_exchange_136 : decode cX9_exchange 136 = .ok (.bipush 8, 2) := by decide +kernel
theorem dX9_exchange_138 : decode cX9_exchange 138 = .ok (.iload_n 1, 1) := by decide +kernel
theorem dX9_exchange_139 : decode cX9_exchange 139 = .ok (.imul, 1) := by decide +kernel
theorem dX9_exchange_140 : decode cX9_exchange 140 = .ok (.bipush 8, 2) := by decide +kernel
theorem dX9_exchange_142 : decode cX9_exchange 142 = .ok (.isub, 1) := by decide +kernel
theorem dX9_exchange_143 : decode cX9_exchange 143 = .ok (.iload_n 3, 1) := by decide +kernel
theorem dX9_exchange_144 : decode cX9_exchange 144 = .ok (.iadd, 1) := by decide +kernel
theorem dX9_exchange_145 : decode cX9_exchange 145 = .ok (.iload 5, 2) := by decide +kernel
theorem dX9_exchange_147 : decode cX9_exchange 147 = .ok (.iastore, 1) := by decide +kernel
theorem dX9_exchange_148 : decode cX9_exchange 148 = .ok (.iinc 3 1, 3) := by decide +kernel
theorem dX9_exchange_151 : decode cX9_exchange 151 = .ok (.goto (-119), 3) := by decide +kernel
theorem dX9_exchange_154 : decode cX9_exchange 154 = .ok (.return_, 1) := by decide +kernel
theorem dX9_isSort_0 : decode cX9_isSort 0 = .ok (.aload_n 0, 1) := by decide +kernel
theorem dX9_isSort_1 : decode cX9_isSort 1 = .ok (.invokevirtual 228, 3) := by decide +kernel
theorem dX9_isSort_4 : decode cX9_isSort 4 = .ok (.iload_n 1, 1) := by decide +kernel
theorem dX9_isSort_5 : decode cX9_isSort 5 = .ok (.iconst 0, 1) := by decide +kernel
theorem dX9_isSort_6 : decode cX9_isSort 6 = .ok (.aload_n 0, 1) := by decide +kernel
theorem dX9_isSort_7 : decode cX9_isSort 7 = .ok (.getfield 143, 3) := by decide +kernel
theorem dX9_isSort_10 : decode cX9_isSort 10 = .ok (.iconst 1, 1) := by decide +kernel
theorem dX9_isSort_11 : decode cX9_isSort 11 = .ok (.isub, 1) := by decide +kernel
theorem dX9_isSort_12 : decode cX9_isSort 12 = .ok (.invokestatic 100, 3) := by decide +kernel
theorem dX9_isSort_15 : decode cX9_isSort 15 = .ok (.ireturn, 1) := by decide +kernel
theorem dX9_isElement_0 : decode cX9_isElement 0 = .ok (.aload_n 0, 1) := by decide +kernel
theorem dX9_isElement_1 : decode cX9_isElement 1 = .ok (.invokevirtual 228, 3) := by decide +kernel
theorem dX9_isElement_4 : decode cX9_isElement 4 = .ok (.iload_n 1, 1) := by decide +kernel
theorem dX9_isElement_5 : decode cX9_isElement 5 = .ok (.iconst 0, 1) := by decide +kernel
theorem dX9_isElement_6 : decode cX9_isElement 6 = .ok (.aload_n 0, 1) := by decide +kernel
theorem dX9_isElement_7 : decode cX9_isElement 7 = .ok (.getfield 127, 3) := by decide +kernel
theorem dX9_isElement_10 : decode cX9_isElement 10 = .ok (.iconst 1, 1) := by decide +kernel
theorem dX9_isElement_11 : decode cX9_isElement 11 = .ok (.isub, 1) := by decide +kernel
theorem dX9_isElement_12 : decode cX9_isElement 12 = .ok (.invokestatic 100, 3) := by decide +kernel
theorem dX9_isElement_15 : decode cX9_isElement 15 = .ok (.ireturn, 1) := by decide +kernel
theorem dX9_ofAll_0 : decode cX9_ofAll 0 = .ok (.aload_n 0, 1) := by decide +kernel
theorem dX9_ofAll_1 : decode cX9_ofAll 1 = .ok (.invokevirtual 228, 3) := by decide +kernel
theorem dX9_ofAll_4 : decode cX9_ofAll 4 = .ok (.iconst 0, 1) := by decide +kernel
theorem dX9_ofAll_5 : decode cX9_ofAll 5 = .ok (.istore_n 2, 1) := by decide +kernel
theorem dX9_ofAll_6 : decode cX9_ofAll 6 = .ok (.iload_n 1, 1) := by decide +kernel
theorem dX9_ofAll_7 : decode cX9_ofAll 7 = .ok (.tableswitch 69 0 5 #[37, 42, 47, 52, 57, 62], 37) := by decide +kernel
theorem dX9_ofAll_44 : decode cX9_ofAll 44 = .ok (.aload_n 0, 1) := by decide +kernel
theorem dX9_ofAll_45 : decode cX9_ofAll 45 = .ok (.getfield 127, 3) := by decide +kernel
theorem dX9_ofAll_48 : decode cX9_ofAll 48 = .ok (.ireturn, 1) := by decide +kernel
theorem dX9_ofAll_49 : decode cX9_ofAll 49 = .ok (.aload_n 0, 1) := by decide +kernel
theorem dX9_ofAll_50 : decode cX9_ofAll 50 = .ok (.getfield 143, 3) := by decide +kernel
theorem dX9_ofAll_53 : decode cX9_ofAll 53 = .ok (.ireturn, 1) := by decide +kernel
theorem dX9_ofAll_54 : decode cX9_ofAll 54 = .ok (.aload_n 0, 1) := by decide +kernel
theorem dX9_ofAll_55 : decode cX9_ofAll 55 = .ok (.getfield 149, 3) := by decide +kernel
theorem dX9_ofAll_58 : decode cX9_ofAll 58 = .ok (.ireturn, 1) := by decide +kernel
theorem dX9_ofAll_59 : decode cX9_ofAll 59 = .ok (.aload_n 0, 1) := by decide +kernel
theorem dX9_ofAll_60 : decode cX9_ofAll 60 = .ok (.getfield 146, 3) := by decide +kernel
theorem dX9_ofAll_63 : decode cX9_ofAll 63 = .ok (.ireturn, 1) := by decide +kernel
theorem dX9_ofAll_64 : decode cX9_ofAll 64 = .ok (.aload_n 0, 1) := by decide +kernel
theorem dX9_ofAll_65 : decode cX9_ofAll 65 = .ok (.getfield 164, 3) := by decide +kernel
theorem dX9_ofAll_68 : decode cX9_ofAll 68 = .ok (.ireturn, 1) := by decide +kernel
theorem dX9_ofAll_69 : decode cX9_ofAll 69 = .ok (.aload_n 0, 1) := by decide +kernel
theorem dX9_ofAll_70 : decode cX9_ofAll 70 = .ok (.getfield 7, 3) := by decide +kernel
theorem dX9_ofAll_73 : decode cX9_ofAll 73 = .ok (.iconst 1, 1) := by decide +kernel
theorem dX9_ofAll_74 : decode cX9_ofAll 74 = .ok (.iaload, 1) := by decide +kernel
theorem dX9_ofAll_75 : decode cX9_ofAll 75 = .ok (.ireturn, 1) := by decide +kernel
theorem dX9_ofAll_76 : decode cX9_ofAll 76 = .ok (.iconst 0, 1) := by decide +kernel
theorem dX9_ofAll_77 : decode cX9_ofAll 77 = .ok (.istore_n 3, 1) := by decide +kernel
theorem dX9_ofAll_78 : decode cX9_ofAll 78 = .ok (.iload_n 3, 1) := by decide +kernel
theorem dX9_ofAll_79 : decode cX9_ofAll 79 = .ok (.aload_n 0, 1) := by decide +kernel
theorem dX9_ofAll_80 : decode cX9_ofAll 80 = .ok (.getfield 143, 3) := by decide +kernel
theorem dX9_ofAll_83 : decode cX9_ofAll 83 = .ok (.if_icmp .ge 42, 3) := by decide +kernel
theorem dX9_ofAll_86 : decode cX9_ofAll 86 = .ok (.iload_n 2, 1) := by decide +kernel
theorem dX9_ofAll_87 : decode cX9_ofAll 87 = .ok (.iload_n 1, 1) := by decide +kernel
theorem dX9_ofAll_88 : decode cX9_ofAll 88 = .ok (.bipush 6, 2) := by decide +kernel
theorem dX9_ofAll_90 : decode cX9_ofAll 90 = .ok (.if_icmp .ne 12, 3) := by decide +kernel
theorem dX9_ofAll_93 : decode cX9_ofAll 93 = .ok (.aload_n 0, 1) := by decide +kernel
theorem dX9_ofAll_94 : decode cX9_ofAll 94 = .ok (.getfield 37, 3) := by decide +kernel
theorem dX9_ofAll_97 : decode cX9_ofAll 97 = .ok (.iload_n 3, 1) := by decide +kernel
theorem dX9_ofAll_98 : decode cX9_ofAll 98 = .ok (.iaload, 1) := by decide +kernel
theorem dX9_ofAll_99 : decode cX9_ofAll 99 = .ok (.goto 9, 3) := by decide +kernel
theorem dX9_ofAll_102 : decode cX9_ofAll 102 = .ok (.aload_n 0, 1) := by decide +kernel
theorem dX9_ofAll_103 : decode cX9_ofAll 103 = .ok (.getfield 67, 3) := by decide +kernel
theorem dX9_ofAll_106 : decode cX9_ofAll 106 = .ok (.iload_n 3, 1) := by decide +kernel
theorem dX9_ofAll_107 : decode cX9_ofAll 107 = .ok (.iaload, 1) := by decide +kernel
theorem dX9_ofAll_108 : decode cX9_ofAll 108 = .ok (.iconst 1, 1) := by decide +kernel
theorem dX9_ofAll_109 : decode cX9_ofAll 109 = .ok (.if_icmp .ne 7, 3) := by decide +kernel
theorem dX9_ofAll_112 : decode cX9_ofAll 112 = .ok (.iconst 1, 1) := by decide +kernel
theorem dX9_ofAll_113 : decode cX9_ofAll 113 = .ok (.goto 4, 3) := by decide +kernel
theorem dX9_ofAll_116 : decode cX9_ofAll 116 = .ok (.iconst 0, 1) := by decide +kernel
theorem dX9_ofAll_117 : decode cX9_ofAll 117 = .ok (.iadd, 1) := by decide +kernel
theorem dX9_ofAll_118 : decode cX9_ofAll 118 = .ok (.istore_n 2, 1) := by decide +kernel
theorem dX9_ofAll_119 : decode cX9_ofAll 119 = .ok (.iinc 3 1, 3) := by decide +kernel
theorem dX9_ofAll_122 : decode cX9_ofAll 122 = .ok (.goto (-44), 3) := by decide +kernel
theorem dX9_ofAll_125 : decode cX9_ofAll 125 = .ok (.iload_n 2, 1) := by decide +kernel
theorem dX9_ofAll_126 : decode cX9_ofAll 126 = .ok (.ireturn, 1) := by decide +kernel
theorem dX9_of_0 : decode cX9_of 0 = .ok (.iload_n 1, 1) := by decide +kernel
theorem dX9_of_1 : decode cX9_of 1 = .ok (.iconst 0, 1) := by decide +kernel
theorem dX9_of_2 : decode cX9_of 2 = .ok (.bipush 7, 2) := by decide +kernel
theorem dX9_of_4 : decode cX9_of 4 = .ok (.invokestatic 100, 3) := by decide +kernel
theorem dX9_of_7 : decode cX9_of 7 = .ok (.ifCond .eq 11, 3) := by decide +kernel
theorem dX9_of_10 : decode cX9_of 10 = .ok (.aload_n 0, 1) := by decide +kernel
theorem dX9_of_11 : decode cX9_of 11 = .ok (.iload_n 1, 1) := by decide +kernel
theorem dX9_of_12 : decode cX9_of 12 = .ok (.invokevirtual 231, 3) := by decide +kernel
theorem dX9_of_15 : decode cX9_of 15 = .ok (.goto 9, 3) := by decide +kernel
theorem dX9_of_18 : decode cX9_of 18 = .ok (.aload_n 0, 1) := by decide +kernel
theorem dX9_of_19 : decode cX9_of 19 = .ok (.bipush (-2), 2) := by decide +kernel
theorem dX9_of_21 : decode cX9_of 21 = .ok (.invokevirtual 89, 3) := by decide +kernel
theorem dX9_of_24 : decode cX9_of 24 = .ok (.ireturn, 1) := by decide +kernel
theorem dX9_element_0 : decode cX9_element 0 = .ok (.aload_n 0, 1) := by decide +kernel
theorem dX9_element_1 : decode cX9_element 1 = .ok (.iload_n 1, 1) := by decide +kernel
theorem dX9_element_2 : decode cX9_element 2 = .ok (.invokevirtual 234, 3) := by decide +kernel
theorem dX9_element_5 : decode cX9_element 5 = .ok (.ifCond .eq 12, 3) := by decide +kernel
theorem dX9_element_8 : decode cX9_element 8 = .ok (.iload_n 2, 1) := by decide +kernel
theorem dX9_element_9 : decode cX9_element 9 = .ok (.iconst 0, 1) := by decide +kernel
theorem dX9_element_10 : decode cX9_element 10 = .ok (.iconst 3, 1) := by decide +kernel
theorem dX9_element_11 : decode cX9_element 11 = .ok (.invokestatic 100, 3) := by decide +kernel
theorem dX9_element_14 : decode cX9_element 14 = .ok (.ifCond .ne 10, 3) := by decide +kernel
theorem dX9_element_17 : decode cX9_element 17 = .ok (.aload_n 0, 1) := by decide +kernel
theorem dX9_element_18 : decode cX9_element 18 = .ok (.bipush (-2), 2) := by decide +kernel
theorem dX9_element_20 : decode cX9_element 20 = .ok (.invokevirtual 89, 3) := by decide +kernel
theorem dX9_element_23 : decode cX9_element 23 = .ok (.ireturn, 1) := by decide +kernel
theorem dX9_element_24 : decode cX9_element 24 = .ok (.iload_n 2, 1) := by decide +kernel
theorem dX9_element_25 : decode cX9_element 25 = .ok (.ifCond .ne 12, 3) := by decide +kernel
theorem dX9_element_28 : decode cX9_element 28 = .ok (.aload_n 0, 1) := by decide +kernel
theorem dX9_element_29 : decode cX9_element 29 = .ok (.getfield 22, 3) := by decide +kernel
theorem dX9_element_32 : decode cX9_element 32 = .ok (.iload_n 1, 1) := by decide +kernel
theorem dX9_element_33 : decode cX9_element 33 = .ok (.iaload, 1) := by decide +kernel
theorem dX9_element_34 : decode cX9_element 34 = .ok (.goto 37, 3) := by decide +kernel
theorem dX9_element_37 : decode cX9_element 37 = .ok (.iload_n 2, 1) := by decide +kernel
theorem dX9_element_38 : decode cX9_element 38 = .ok (.iconst 1, 1) := by decide +kernel
theorem dX9_element_39 : decode cX9_element 39 = .ok (.if_icmp .ne 12, 3) := by decide +kernel
theorem dX9_element_42 : decode cX9_element 42 = .ok (.aload_n 0, 1) := by decide +kernel
theorem dX9_element_43 : decode cX9_element 43 = .ok (.getfield 28, 3) := by decide +kernel
theorem dX9_element_46 : decode cX9_element 46 = .ok (.iload_n 1, 1) := by decide +kernel
theorem dX9_element_47 : decode cX9_element 47 = .ok (.iaload, 1) := by decide +kernel
theorem dX9_element_48 : decode cX9_element 48 = .ok (.goto 23, 3) := by decide +kernel
theorem dX9_element_51 : decode cX9_element 51 = .ok (.iload_n 2, 1) := by decide +kernel
theorem dX9_element_52 : decode cX9_element 52 = .ok (.iconst 2, 1) := by decide +kernel
theorem dX9_element_53 : decode cX9_element 53 = .ok (.if_icmp .ne 12, 3) := by decide +kernel
theorem dX9_element_56 : decode cX9_element 56 = .ok (.aload_n 0, 1) := by decide +kernel
theorem dX9_element_57 : decode cX9_element 57 = .ok (.getfield 31, 3) := by decide +kernel
theorem dX9_element_60 : decode cX9_element 60 = .ok (.iload_n 1, 1) := by decide +kernel
theorem dX9_element_61 : decode cX9_element 61 = .ok (.iaload, 1) := by decide +kernel
theorem dX9_element_62 : decode cX9_element 62 = .ok (.goto 9, 3) := by decide +kernel
theorem dX9_element_65 : decode cX9_element 65 = .ok (.aload_n 0, 1) := by decide +kernel
theorem dX9_element_66 : decode cX9_element 66 = .ok (.getfield 34, 3) := by decide +kernel
theorem dX9_element_69 : decode cX9_element 69 = .ok (.iload_n 1, 1) := by decide +kernel
theorem dX9_element_70 : decode cX9_element 70 = .ok (.iaload, 1) := by decide +kernel
theorem dX9_element_71 : decode cX9_element 71 = .ok (.ireturn, 1) := by decide +kernel
theorem dX9_product_0 : decode cX9_product 0 = .ok (.aload_n 0, 1) := by decide +kernel
theorem dX9_product_1 : decode cX9_product 1 = .ok (.iload_n 1, 1) := by decide +kernel
theorem dX9_product_2 : decode cX9_product 2 = .ok (.invokevirtual 234, 3) := by decide +kernel
theorem dX9_product_5 : decode cX9_product 5 = .ok (.ifCond .eq 20, 3) := by decide +kernel
theorem dX9_product_8 : decode cX9_product 8 = .ok (.aload_n 0, 1) := by decide +kernel
theorem dX9_product_9 : decode cX9_product 9 = .ok (.iload_n 2, 1) := by decide +kernel
theorem dX9_product_10 : decode cX9_product 10 = .ok (.invokevirtual 234, 3) := by decide +kernel
theorem dX9_product_13 : decode cX9_product 13 = .ok (.ifCond .eq 12, 3) := by decide +kernel
theorem dX9_product_16 : decode cX9_product 16 = .ok (.aload_n 0, 1) := by decide +kernel
theorem dX9_product_17 : decode cX9_product 17 = .ok (.iload_n 1, 1) := by decide +kernel
theorem dX9_product_18 : decode cX9_product 18 = .ok (.iload_n 2, 1) := by decide +kernel
theorem dX9_product_19 : decode cX9_product 19 = .ok (.invokevirtual 140, 3) := by decide +kernel
theorem dX9_product_22 : decode cX9_product 22 = .ok (.goto 9, 3) := by decide +kernel
theorem dX9_product_25 : decode cX9_product 25 = .ok (.aload_n 0, 1) := by decide +kernel
theorem dX9_product_26 : decode cX9_product 26 = .ok (.bipush (-2), 2) := by decide +kernel
theorem dX9_product_28 : decode cX9_product 28 = .ok (.invokevirtual 89, 3) := by decide +kernel
theorem dX9_product_31 : decode cX9_product 31 = .ok (.ireturn, 1) := by decide +kernel
theorem dX9_left_0 : decode cX9_left 0 = .ok (.iconst 0, 1) := by decide +kernel
theorem dX9_left_1 : decode cX9_left 1 = .ok (.istore_n 2, 1) := by decide +kernel
theorem dX9_left_2 : decode cX9_left 2 = .ok (.iconst 0, 1) := by decide +kernel
theorem dX9_left_3 : decode cX9_left 3 = .ok (.istore_n 3, 1) := by decide +kernel
theorem dX9_left_4 : decode cX9_left 4 = .ok (.iload_n 3, 1) := by decide +kernel
theorem dX9_left_5 : decode cX9_left 5 = .ok (.aload_n 0, 1) := by decide +kernel
theorem dX9_left_6 : decode cX9_left 6 = .ok (.getfield 7, 3) := by decide +kernel
theorem dX9_left_9 : decode cX9_left 9 = .ok (.iconst 0, 1) := by decide +kernel
theorem dX9_left_10 : decode cX9_left 10 = .ok (.iaload, 1) := by decide +kernel
theorem dX9_left_11 : decode cX9_left 11 = .ok (.if_icmp .ge 37, 3) := by decide +kernel
theorem dX9_left_14 : decode cX9_left 14 = .ok (.iload_n 2, 1) := by decide +kernel
theorem dX9_left_15 : decode cX9_left 15 = .ok (.aload_n 0, 1) := by decide +kernel
theorem dX9_left_16 : decode cX9_left 16 = .ok (.aload_n 0, 1) := by decide +kernel
theorem dX9_left_17 : decode cX9_left 17 = .ok (.getfield 22, 3) := by decide +kernel
theorem dX9_left_20 : decode cX9_left 20 = .ok (.aload_n 0, 1) := by decide +kernel
theorem dX9_left_21 : decode cX9_left 21 = .ok (.getfield 40, 3) := by decide +kernel
theorem dX9_left_24 : decode cX9_left 24 = .ok (.iload_n 1, 1) := by decide +kernel
theorem dX9_left_25 : decode cX9_left 25 = .ok (.iaload, 1) := by decide +kernel
theorem dX9_left_26 : decode cX9_left 26 = .ok (.iaload, 1) := by decide +kernel
theorem dX9_left_27 : decode cX9_left 27 = .ok (.iload_n 3, 1) := by decide +kernel
theorem dX9_left_28 : decode cX9_left 28 = .ok (.invokevirtual 104, 3) := by decide +kernel
theorem dX9_left_31 : decode cX9_left 31 = .ok (.iload_n 3, 1) := by decide +kernel
theorem dX9_left_32 : decode cX9_left 32 = .ok (.if_icmp .ne 7, 3) := by decide +kernel
theorem dX9_left_35 : decode cX9_left 35 = .ok (.iconst 1, 1) := by decide +kernel
theorem dX9_left_36 : decode cX9_left 36 = .ok (.goto 4, 3) := by decide +kernel
theorem dX9_left_39 : decode cX9_left 39 = .ok (.iconst 0, 1) := by decide +kernel
theorem dX9_left_40 : decode cX9_left 40 = .ok (.iadd, 1) := by decide +kernel
theorem dX9_left_41 : decode cX9_left 41 = .ok (.istore_n 2, 1) := by decide +kernel
theorem dX9_left_42 : decode cX9_left 42 = .ok (.iinc 3 1, 3) := by decide +kernel
theorem dX9_left_45 : decode cX9_left 45 = .ok (.goto (-41), 3) := by decide +kernel
theorem dX9_left_48 : decode cX9_left 48 = .ok (.iload_n 2, 1) := by decide +kernel
theorem dX9_left_49 : decode cX9_left 49 = .ok (.ireturn, 1) := by decide +kernel
theorem dX9_ofSort_0 : decode cX9_ofSort 0 = .ok (.iload_n 2, 1) := by decide +kernel
theorem dX9_ofSort_1 : decode cX9_ofSort 1 = .ok (.tableswitch 89 0 4 #[35, 42, 54, 61, 67], 35) := by decide +kernel
theorem dX9_ofSort_36 : decode cX9_ofSort 36 = .ok (.aload_n 0, 1) := by decide +kernel
theorem dX9_ofSort_37 : decode cX9_ofSort 37 = .ok (.getfield 37, 3) := by decide +kernel
theorem dX9_ofSort_40 : decode cX9_ofSort 40 = .ok (.iload_n 1, 1) := by decide +kernel
theorem dX9_ofSort_41 : decode cX9_ofSort 41 = .ok (.iaload, 1) := by decide +kernel
theorem dX9_ofSort_42 : decode cX9_ofSort 42 = .ok (.ireturn, 1) := by decide +kernel
theorem dX9_ofSort_43 : decode cX9_ofSort 43 = .ok (.aload_n 0, 1) := by decide +kernel
theorem dX9_ofSort_44 : decode cX9_ofSort 44 = .ok (.getfield 34, 3) := by decide +kernel
theorem dX9_ofSort_47 : decode cX9_ofSort 47 = .ok (.aload_n 0, 1) := by decide +kernel
theorem dX9_ofSort_48 : decode cX9_ofSort 48 = .ok (.getfield 40, 3) := by decide +kernel
theorem dX9_ofSort_51 : decode cX9_ofSort 51 = .ok (.iload_n 1, 1) := by decide +kernel
theorem dX9_ofSort_52 : decode cX9_ofSort 52 = .ok (.iaload, 1) := by decide +kernel
theorem dX9_ofSort_53 : decode cX9_ofSort 53 = .ok (.iaload, 1) := by decide +kernel
theorem dX9_ofSort_54 : decode cX9_ofSort 54 = .ok (.ireturn, 1) := by decide +kernel
theorem dX9_ofSort_55 : decode cX9_ofSort 55 = .ok (.aload_n 0, 1) := by decide +kernel
theorem dX9_ofSort_56 : decode cX9_ofSort 56 = .ok (.getfield 40, 3) := by decide +kernel
theorem dX9_ofSort_59 : decode cX9_ofSort 59 = .ok (.iload_n 1, 1) := by decide +kernel
theorem dX9_ofSort_60 : decode cX9_ofSort 60 = .ok (.iaload, 1) := by decide +kernel
theorem dX9_ofSort_61 : decode cX9_ofSort 61 = .ok (.ireturn, 1) := by decide +kernel
theorem dX9_ofSort_62 : decode cX9_ofSort 62 = .ok (.aload_n 0, 1) := by decide +kernel
theorem dX9_ofSort_63 : decode cX9_ofSort 63 = .ok (.iload_n 1, 1) := by decide +kernel
theorem dX9_ofSort_64 : decode cX9_ofSort 64 = .ok (.invokevirtual 215, 3) := by decide +kernel
theorem dX9_ofSort_67 : decode cX9_ofSort 67 = .ok (.ireturn, 1) := by decide +kernel
theorem dX9_ofSort_68 : decode cX9_ofSort 68 = .ok (.aload_n 0, 1) := by decide +kernel
theorem dX9_ofSort_69 : decode cX9_ofSort 69 = .ok (.getfield 28, 3) := by decide +kernel
theorem dX9_ofSort_72 : decode cX9_ofSort 72 = .ok (.aload_n 0, 1) := by decide +kernel
theorem dX9_ofSort_73 : decode cX9_ofSort 73 = .ok (.aload_n 0, 1) := by decide +kernel
theorem dX9_ofSort_74 : decode cX9_ofSort 74 = .ok (.getfield 40, 3) := by decide +kernel
theorem dX9_ofSort_77 : decode cX9_ofSort 77 = .ok (.iload_n 1, 1) := by decide +kernel
theorem dX9_ofSort_78 : decode cX9_ofSort 78 = .ok (.iaload, 1) := by decide +kernel
theorem dX9_ofSort_79 : decode cX9_ofSort 79 = .ok (.aload_n 0, 1) := by decide +kernel
theorem dX9_ofSort_80 : decode cX9_ofSort 80 = .ok (.getfield 40, 3) := by decide +kernel
theorem dX9_ofSort_83 : decode cX9_ofSort 83 = .ok (.iload_n 1, 1) := by decide +kernel
theorem dX9_ofSort_84 : decode cX9_ofSort 84 = .ok (.iaload, 1) := by decide +kernel
theorem dX9_ofSort_85 : decode cX9_ofSort 85 = .ok (.invokevirtual 140, 3) := by decide +kernel
theorem dX9_ofSort_88 : decode cX9_ofSort 88 = .ok (.iaload, 1) := by decide +kernel
theorem dX9_ofSort_89 : decode cX9_ofSort 89 = .ok (.ireturn, 1) := by decide +kernel
theorem dX9_ofSort_90 : decode cX9_ofSort 90 = .ok (.aload_n 0, 1) := by decide +kernel
theorem dX9_ofSort_91 : decode cX9_ofSort 91 = .ok (.iload_n 1, 1) := by decide +kernel
theorem dX9_ofSort_92 : decode cX9_ofSort 92 = .ok (.invokevirtual 237, 3) := by decide +kernel
theorem dX9_ofSort_95 : decode cX9_ofSort 95 = .ok (.ireturn, 1) := by decide +kernel
theorem dX9_sort_0 : decode cX9_sort 0 = .ok (.aload_n 0, 1) := by decide +kernel
theorem dX9_sort_1 : decode cX9_sort 1 = .ok (.iload_n 1, 1) := by decide +kernel
theorem dX9_sort_2 : decode cX9_sort 2 = .ok (.invokevirtual 240, 3) := by decide +kernel
theorem dX9_sort_5 : decode cX9_sort 5 = .ok (.ifCond .eq 21, 3) := by decide +kernel
theorem dX9_sort_8 : decode cX9_sort 8 = .ok (.iload_n 2, 1) := by decide +kernel
theorem dX9_sort_9 : decode cX9_sort 9 = .ok (.iconst 0, 1) := by decide +kernel
theorem dX9_sort_10 : decode cX9_sort 10 = .ok (.iconst 5, 1) := by decide +kernel
theorem dX9_sort_11 : decode cX9_sort 11 = .ok (.invokestatic 100, 3) := by decide +kernel
theorem dX9_sort_14 : decode cX9_sort 14 = .ok (.ifCond .eq 12, 3) := by decide +kernel
theorem dX9_sort_17 : decode cX9_sort 17 = .ok (.aload_n 0, 1) := by decide +kernel
theorem dX9_sort_18 : decode cX9_sort 18 = .ok (.iload_n 1, 1) := by decide +kernel
theorem dX9_sort_19 : decode cX9_sort 19 = .ok (.iload_n 2, 1) := by decide +kernel
theorem dX9_sort_20 : decode cX9_sort 20 = .ok (.invokevirtual 243, 3) := by decide +kernel
theorem dX9_sort_23 : decode cX9_sort 23 = .ok (.goto 9, 3) := by decide +kernel
theorem dX9_sort_26 : decode cX9_sort 26 = .ok (.aload_n 0, 1) := by decide +kernel
theorem dX9_sort_27 : decode cX9_sort 27 = .ok (.bipush (-2), 2) := by decide +kernel
theorem dX9_sort_29 : decode cX9_sort 29 = .ok (.invokevirtual 89, 3) := by decide +kernel
theorem dX9_sort_32 : decode cX9_sort 32 = .ok (.ireturn, 1) := by decide +kernel
theorem dX9_times_0 : decode cX9_times 0 = .ok (.aload_n 0, 1) := by decide +kernel
theorem dX9_times_1 : decode cX9_times 1 = .ok (.iload_n 1, 1) := by decide +kernel
theorem dX9_times_2 : decode cX9_times 2 = .ok (.invokevirtual 240, 3) := by decide +kernel
theorem dX9_times_5 : decode cX9_times 5 = .ok (.ifCond .eq 38, 3) := by decide +kernel
theorem dX9_times_8 : decode cX9_times 8 = .ok (.aload_n 0, 1) := by decide +kernel
theorem dX9_times_9 : decode cX9_times 9 = .ok (.iload_n 2, 1) := by decide +kernel
theorem dX9_times_10 : decode cX9_times 10 = .ok (.invokevirtual 240, 3) := by decide +kernel
theorem dX9_times_13 : decode cX9_times 13 = .ok (.ifCond .eq 30, 3) := by decide +kernel
theorem dX9_times_16 : decode cX9_times 16 = .ok (.aload_n 0, 1) := by decide +kernel
theorem dX9_times_17 : decode cX9_times 17 = .ok (.iload_n 3, 1) := by decide +kernel
theorem dX9_times_18 : decode cX9_times 18 = .ok (.invokevirtual 240, 3) := by decide +kernel
theorem dX9_times_21 : decode cX9_times 21 = .ok (.ifCond .eq 22, 3) := by decide +kernel
theorem dX9_times_24 : decode cX9_times 24 = .ok (.aload_n 0, 1) := by decide +kernel
theorem dX9_times_25 : decode cX9_times 25 = .ok (.getfield 43, 3) := by decide +kernel
theorem dX9_times_28 : decode cX9_times 28 = .ok (.bipush 64, 2) := by decide +kernel
