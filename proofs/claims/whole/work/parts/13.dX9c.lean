theorem dX9_times_30 : decode cX9_times 30 = .ok (.iload_n 1, 1) := by decide +kernel
theorem dX9_times_31 : decode cX9_times 31 = .ok (.imul, 1) := by decide +kernel
theorem dX9_times_32 : decode cX9_times 32 = .ok (.bipush 8, 2) := by decide +kernel
theorem dX9_times_34 : decode cX9_times 34 = .ok (.iload_n 2, 1) := by decide +kernel
theorem dX9_times_35 : decode cX9_times 35 = .ok (.imul, 1) := by decide +kernel
theorem dX9_times_36 : decode cX9_times 36 = .ok (.iadd, 1) := by decide +kernel
theorem dX9_times_37 : decode cX9_times 37 = .ok (.iload_n 3, 1) := by decide +kernel
theorem dX9_times_38 : decode cX9_times 38 = .ok (.iadd, 1) := by decide +kernel
theorem dX9_times_39 : decode cX9_times 39 = .ok (.iaload, 1) := by decide +kernel
theorem dX9_times_40 : decode cX9_times 40 = .ok (.goto 9, 3) := by decide +kernel
theorem dX9_times_43 : decode cX9_times 43 = .ok (.aload_n 0, 1) := by decide +kernel
theorem dX9_times_44 : decode cX9_times 44 = .ok (.bipush (-2), 2) := by decide +kernel
theorem dX9_times_46 : decode cX9_times 46 = .ok (.invokevirtual 89, 3) := by decide +kernel
theorem dX9_times_49 : decode cX9_times 49 = .ok (.ireturn, 1) := by decide +kernel
theorem dX9_degree_0 : decode cX9_degree 0 = .ok (.aload_n 0, 1) := by decide +kernel
theorem dX9_degree_1 : decode cX9_degree 1 = .ok (.iload_n 1, 1) := by decide +kernel
theorem dX9_degree_2 : decode cX9_degree 2 = .ok (.invokevirtual 240, 3) := by decide +kernel
theorem dX9_degree_5 : decode cX9_degree 5 = .ok (.ifCond .eq 12, 3) := by decide +kernel
theorem dX9_degree_8 : decode cX9_degree 8 = .ok (.aload_n 0, 1) := by decide +kernel
theorem dX9_degree_9 : decode cX9_degree 9 = .ok (.getfield 67, 3) := by decide +kernel
theorem dX9_degree_12 : decode cX9_degree 12 = .ok (.iload_n 1, 1) := by decide +kernel
theorem dX9_degree_13 : decode cX9_degree 13 = .ok (.iaload, 1) := by decide +kernel
theorem dX9_degree_14 : decode cX9_degree 14 = .ok (.goto 9, 3) := by decide +kernel
theorem dX9_degree_17 : decode cX9_degree 17 = .ok (.aload_n 0, 1) := by decide +kernel
theorem dX9_degree_18 : decode cX9_degree 18 = .ok (.bipush (-2), 2) := by decide +kernel
theorem dX9_degree_20 : decode cX9_degree 20 = .ok (.invokevirtual 89, 3) := by decide +kernel
theorem dX9_degree_23 : decode cX9_degree 23 = .ok (.ireturn, 1) := by decide +kernel
theorem dX9_value_0 : decode cX9_value 0 = .ok (.aload_n 0, 1) := by decide +kernel
theorem dX9_value_1 : decode cX9_value 1 = .ok (.iload_n 1, 1) := by decide +kernel
theorem dX9_value_2 : decode cX9_value 2 = .ok (.invokevirtual 240, 3) := by decide +kernel
theorem dX9_value_5 : decode cX9_value 5 = .ok (.ifCond .eq 25, 3) := by decide +kernel
theorem dX9_value_8 : decode cX9_value 8 = .ok (.aload_n 0, 1) := by decide +kernel
theorem dX9_value_9 : decode cX9_value 9 = .ok (.iload_n 2, 1) := by decide +kernel
theorem dX9_value_10 : decode cX9_value 10 = .ok (.invokevirtual 240, 3) := by decide +kernel
theorem dX9_value_13 : decode cX9_value 13 = .ok (.ifCond .eq 17, 3) := by decide +kernel
theorem dX9_value_16 : decode cX9_value 16 = .ok (.aload_n 0, 1) := by decide +kernel
theorem dX9_value_17 : decode cX9_value 17 = .ok (.getfield 70, 3) := by decide +kernel
theorem dX9_value_20 : decode cX9_value 20 = .ok (.bipush 8, 2) := by decide +kernel
theorem dX9_value_22 : decode cX9_value 22 = .ok (.iload_n 1, 1) := by decide +kernel
theorem dX9_value_23 : decode cX9_value 23 = .ok (.imul, 1) := by decide +kernel
theorem dX9_value_24 : decode cX9_value 24 = .ok (.iload_n 2, 1) := by decide +kernel
theorem dX9_value_25 : decode cX9_value 25 = .ok (.iadd, 1) := by decide +kernel
theorem dX9_value_26 : decode cX9_value 26 = .ok (.iaload, 1) := by decide +kernel
theorem dX9_value_27 : decode cX9_value 27 = .ok (.goto 9, 3) := by decide +kernel
theorem dX9_value_30 : decode cX9_value 30 = .ok (.aload_n 0, 1) := by decide +kernel
theorem dX9_value_31 : decode cX9_value 31 = .ok (.bipush (-2), 2) := by decide +kernel
theorem dX9_value_33 : decode cX9_value 33 = .ok (.invokevirtual 89, 3) := by decide +kernel
theorem dX9_value_36 : decode cX9_value 36 = .ok (.ireturn, 1) := by decide +kernel
theorem dX9_spread_0 : decode cX9_spread 0 = .ok (.aload_n 0, 1) := by decide +kernel
theorem dX9_spread_1 : decode cX9_spread 1 = .ok (.iload_n 1, 1) := by decide +kernel
theorem dX9_spread_2 : decode cX9_spread 2 = .ok (.invokevirtual 240, 3) := by decide +kernel
theorem dX9_spread_5 : decode cX9_spread 5 = .ok (.ifCond .eq 25, 3) := by decide +kernel
theorem dX9_spread_8 : decode cX9_spread 8 = .ok (.aload_n 0, 1) := by decide +kernel
theorem dX9_spread_9 : decode cX9_spread 9 = .ok (.iload_n 2, 1) := by decide +kernel
theorem dX9_spread_10 : decode cX9_spread 10 = .ok (.invokevirtual 240, 3) := by decide +kernel
theorem dX9_spread_13 : decode cX9_spread 13 = .ok (.ifCond .eq 17, 3) := by decide +kernel
theorem dX9_spread_16 : decode cX9_spread 16 = .ok (.aload_n 0, 1) := by decide +kernel
theorem dX9_spread_17 : decode cX9_spread 17 = .ok (.getfield 64, 3) := by decide +kernel
theorem dX9_spread_20 : decode cX9_spread 20 = .ok (.bipush 8, 2) := by decide +kernel
theorem dX9_spread_22 : decode cX9_spread 22 = .ok (.iload_n 1, 1) := by decide +kernel
theorem dX9_spread_23 : decode cX9_spread 23 = .ok (.imul, 1) := by decide +kernel
theorem dX9_spread_24 : decode cX9_spread 24 = .ok (.iload_n 2, 1) := by decide +kernel
theorem dX9_spread_25 : decode cX9_spread 25 = .ok (.iadd, 1) := by decide +kernel
theorem dX9_spread_26 : decode cX9_spread 26 = .ok (.iaload, 1) := by decide +kernel
theorem dX9_spread_27 : decode cX9_spread 27 = .ok (.goto 9, 3) := by decide +kernel
theorem dX9_spread_30 : decode cX9_spread 30 = .ok (.aload_n 0, 1) := by decide +kernel
theorem dX9_spread_31 : decode cX9_spread 31 = .ok (.bipush (-2), 2) := by decide +kernel
theorem dX9_spread_33 : decode cX9_spread 33 = .ok (.invokevirtual 89, 3) := by decide +kernel
theorem dX9_spread_36 : decode cX9_spread 36 = .ok (.ireturn, 1) := by decide +kernel
theorem dX9_part_0 : decode cX9_part 0 = .ok (.aload_n 0, 1) := by decide +kernel
theorem dX9_part_1 : decode cX9_part 1 = .ok (.iload_n 1, 1) := by decide +kernel
theorem dX9_part_2 : decode cX9_part 2 = .ok (.invokevirtual 240, 3) := by decide +kernel
theorem dX9_part_5 : decode cX9_part 5 = .ok (.ifCond .eq 32, 3) := by decide +kernel
theorem dX9_part_8 : decode cX9_part 8 = .ok (.aload_n 0, 1) := by decide +kernel
theorem dX9_part_9 : decode cX9_part 9 = .ok (.iload_n 2, 1) := by decide +kernel
theorem dX9_part_10 : decode cX9_part 10 = .ok (.invokevirtual 240, 3) := by decide +kernel
theorem dX9_part_13 : decode cX9_part 13 = .ok (.ifCond .eq 24, 3) := by decide +kernel
theorem dX9_part_16 : decode cX9_part 16 = .ok (.iload_n 3, 1) := by decide +kernel
theorem dX9_part_17 : decode cX9_part 17 = .ok (.iconst 0, 1) := by decide +kernel
theorem dX9_part_18 : decode cX9_part 18 = .ok (.aload_n 0, 1) := by decide +kernel
theorem dX9_part_19 : decode cX9_part 19 = .ok (.getfield 34, 3) := by decide +kernel
theorem dX9_part_22 : decode cX9_part 22 = .ok (.aload_n 0, 1) := by decide +kernel
theorem dX9_part_23 : decode cX9_part 23 = .ok (.getfield 40, 3) := by decide +kernel
theorem dX9_part_26 : decode cX9_part 26 = .ok (.iload_n 2, 1) := by decide +kernel
theorem dX9_part_27 : decode cX9_part 27 = .ok (.iaload, 1) := by decide +kernel
theorem dX9_part_28 : decode cX9_part 28 = .ok (.iaload, 1) := by decide +kernel
theorem dX9_part_29 : decode cX9_part 29 = .ok (.iconst 1, 1) := by decide +kernel
theorem dX9_part_30 : decode cX9_part 30 = .ok (.isub, 1) := by decide +kernel
theorem dX9_part_31 : decode cX9_part 31 = .ok (.invokestatic 100, 3) := by decide +kernel
theorem dX9_part_34 : decode cX9_part 34 = .ok (.ifCond .ne 10, 3) := by decide +kernel
theorem dX9_part_37 : decode cX9_part 37 = .ok (.aload_n 0, 1) := by decide +kernel
theorem dX9_part_38 : decode cX9_part 38 = .ok (.bipush (-2), 2) := by decide +kernel
theorem dX9_part_40 : decode cX9_part 40 = .ok (.invokevirtual 89, 3) := by decide +kernel
theorem dX9_part_43 : decode cX9_part 43 = .ok (.ireturn, 1) := by decide +kernel
theorem dX9_part_44 : decode cX9_part 44 = .ok (.aload_n 0, 1) := by decide +kernel
theorem dX9_part_45 : decode cX9_part 45 = .ok (.getfield 34, 3) := by decide +kernel
theorem dX9_part_48 : decode cX9_part 48 = .ok (.aload_n 0, 1) := by decide +kernel
theorem dX9_part_49 : decode cX9_part 49 = .ok (.getfield 40, 3) := by decide +kernel
theorem dX9_part_52 : decode cX9_part 52 = .ok (.iload_n 2, 1) := by decide +kernel
theorem dX9_part_53 : decode cX9_part 53 = .ok (.iaload, 1) := by decide +kernel
theorem dX9_part_54 : decode cX9_part 54 = .ok (.iaload, 1) := by decide +kernel
theorem dX9_part_55 : decode cX9_part 55 = .ok (.istore 4, 2) := by decide +kernel
theorem dX9_part_57 : decode cX9_part 57 = .ok (.iconst 0, 1) := by decide +kernel
theorem dX9_part_58 : decode cX9_part 58 = .ok (.istore 5, 2) := by decide +kernel
theorem dX9_part_60 : decode cX9_part 60 = .ok (.iconst 0, 1) := by decide +kernel
theorem dX9_part_61 : decode cX9_part 61 = .ok (.istore 6, 2) := by decide +kernel
theorem dX9_part_63 : decode cX9_part 63 = .ok (.iconst 0, 1) := by decide +kernel
theorem dX9_part_64 : decode cX9_part 64 = .ok (.istore 7, 2) := by decide +kernel
theorem dX9_part_66 : decode cX9_part 66 = .ok (.iload 7, 2) := by decide +kernel
theorem dX9_part_68 : decode cX9_part 68 = .ok (.iload 4, 2) := by decide +kernel
theorem dX9_part_70 : decode cX9_part 70 = .ok (.if_icmp .ge 84, 3) := by decide +kernel
theorem dX9_part_73 : decode cX9_part 73 = .ok (.aload_n 0, 1) := by decide +kernel
theorem dX9_part_74 : decode cX9_part 74 = .ok (.getfield 149, 3) := by decide +kernel
theorem dX9_part_77 : decode cX9_part 77 = .ok (.iload 4, 2) := by decide +kernel
theorem dX9_part_79 : decode cX9_part 79 = .ok (.idiv, 1) := by decide +kernel
theorem dX9_part_80 : decode cX9_part 80 = .ok (.iload 7, 2) := by decide +kernel
theorem dX9_part_82 : decode cX9_part 82 = .ok (.imul, 1) := by decide +kernel
theorem dX9_part_83 : decode cX9_part 83 = .ok (.iload_n 3, 1) := by decide +kernel
theorem dX9_part_84 : decode cX9_part 84 = .ok (.imul, 1) := by decide +kernel
theorem dX9_part_85 : decode cX9_part 85 = .ok (.aload_n 0, 1) := by decide +kernel
theorem dX9_part_86 : decode cX9_part 86 = .ok (.getfield 149, 3) := by decide +kernel
theorem dX9_part_89 : decode cX9_part 89 = .ok (.irem, 1) := by decide +kernel
theorem dX9_part_90 : decode cX9_part 90 = .ok (.istore 8, 2) := by decide +kernel
theorem dX9_part_92 : decode cX9_part 92 = .ok (.aload_n 0, 1) := by decide +kernel
theorem dX9_part_93 : decode cX9_part 93 = .ok (.iload 5, 2) := by decide +kernel
theorem dX9_part_95 : decode cX9_part 95 = .ok (.aload_n 0, 1) := by decide +kernel
theorem dX9_part_96 : decode cX9_part 96 = .ok (.getfield 70, 3) := by decide +kernel
theorem dX9_part_99 : decode cX9_part 99 = .ok (.bipush 8, 2) := by decide +kernel
theorem dX9_part_101 : decode cX9_part 101 = .ok (.iload_n 1, 1) := by decide +kernel
theorem dX9_part_102 : decode cX9_part 102 = .ok (.imul, 1) := by decide +kernel
theorem dX9_part_103 : decode cX9_part 103 = .ok (.aload_n 0, 1) := by decide +kernel
theorem dX9_part_104 : decode cX9_part 104 = .ok (.getfield 28, 3) := by decide +kernel
theorem dX9_part_107 : decode cX9_part 107 = .ok (.iload 6, 2) := by decide +kernel
theorem dX9_part_109 : decode cX9_part 109 = .ok (.iaload, 1) := by decide +kernel
theorem dX9_part_110 : decode cX9_part 110 = .ok (.iadd, 1) := by decide +kernel
theorem dX9_part_111 : decode cX9_part 111 = .ok (.iaload, 1) := by decide +kernel
theorem dX9_part_112 : decode cX9_part 112 = .ok (.aload_n 0, 1) := by decide +kernel
theorem dX9_part_113 : decode cX9_part 113 = .ok (.aload_n 0, 1) := by decide +kernel
theorem dX9_part_114 : decode cX9_part 114 = .ok (.getfield 164, 3) := by decide +kernel
theorem dX9_part_117 : decode cX9_part 117 = .ok (.aload_n 0, 1) := by decide +kernel
theorem dX9_part_118 : decode cX9_part 118 = .ok (.getfield 149, 3) := by decide +kernel
theorem dX9_part_121 : decode cX9_part 121 = .ok (.iload 8, 2) := by decide +kernel
theorem dX9_part_123 : decode cX9_part 123 = .ok (.isub, 1) := by decide +kernel
theorem dX9_part_124 : decode cX9_part 124 = .ok (.invokevirtual 161, 3) := by decide +kernel
theorem dX9_part_127 : decode cX9_part 127 = .ok (.imul, 1) := by decide +kernel
theorem dX9_part_128 : decode cX9_part 128 = .ok (.iadd, 1) := by decide +kernel
theorem dX9_part_129 : decode cX9_part 129 = .ok (.invokevirtual 188, 3) := by decide +kernel
theorem dX9_part_132 : decode cX9_part 132 = .ok (.istore 5, 2) := by decide +kernel
theorem dX9_part_134 : decode cX9_part 134 = .ok (.aload_n 0, 1) := by decide +kernel
theorem dX9_part_135 : decode cX9_part 135 = .ok (.iload 6, 2) := by decide +kernel
theorem dX9_part_137 : decode cX9_part 137 = .ok (.aload_n 0, 1) := by decide +kernel
theorem dX9_part_138 : decode cX9_part 138 = .ok (.getfield 40, 3) := by decide +kernel
theorem dX9_part_141 : decode cX9_part 141 = .ok (.iload_n 2, 1) := by decide +kernel
theorem dX9_part_142 : decode cX9_part 142 = .ok (.iaload, 1) := by decide +kernel
theorem dX9_part_143 : decode cX9_part 143 = .ok (.invokevirtual 140, 3) := by decide +kernel
theorem dX9_part_146 : decode cX9_part 146 = .ok (.istore 6, 2) := by decide +kernel
theorem dX9_part_148 : decode cX9_part 148 = .ok (.iinc 7 1, 3) := by decide +kernel
theorem dX9_part_151 : decode cX9_part 151 = .ok (.goto (-85), 3) := by decide +kernel
theorem dX9_part_154 : decode cX9_part 154 = .ok (.aload_n 0, 1) := by decide +kernel
theorem dX9_part_155 : decode cX9_part 155 = .ok (.iload 5, 2) := by decide +kernel
theorem dX9_part_157 : decode cX9_part 157 = .ok (.iload 4, 2) := by decide +kernel
theorem dX9_part_159 : decode cX9_part 159 = .ok (.invokevirtual 195, 3) := by decide +kernel
theorem dX9_part_162 : decode cX9_part 162 = .ok (.ireturn, 1) := by decide +kernel
theorem dX9_meet_0 : decode cX9_meet 0 = .ok (.iconst 0, 1) := by decide +kernel
theorem dX9_meet_1 : decode cX9_meet 1 = .ok (.istore_n 2, 1) := by decide +kernel
theorem dX9_meet_2 : decode cX9_meet 2 = .ok (.iconst 0, 1) := by decide +kernel
theorem dX9_meet_3 : decode cX9_meet 3 = .ok (.istore_n 3, 1) := by decide +kernel
theorem dX9_meet_4 : decode cX9_meet 4 = .ok (.iload_n 3, 1) := by decide +kernel
theorem dX9_meet_5 : decode cX9_meet 5 = .ok (.aload_n 0, 1) := by decide +kernel
theorem dX9_meet_6 : decode cX9_meet 6 = .ok (.getfield 143, 3) := by decide +kernel
theorem dX9_meet_9 : decode cX9_meet 9 = .ok (.if_icmp .ge 50, 3) := by decide +kernel
theorem dX9_meet_12 : decode cX9_meet 12 = .ok (.aload_n 0, 1) := by decide +kernel
theorem dX9_meet_13 : decode cX9_meet 13 = .ok (.iload_n 2, 1) := by decide +kernel
theorem dX9_meet_14 : decode cX9_meet 14 = .ok (.aload_n 0, 1) := by decide +kernel
theorem dX9_meet_15 : decode cX9_meet 15 = .ok (.getfield 37, 3) := by decide +kernel
theorem dX9_meet_18 : decode cX9_meet 18 = .ok (.iload_n 3, 1) := by decide +kernel
theorem dX9_meet_19 : decode cX9_meet 19 = .ok (.iaload, 1) := by decide +kernel
theorem dX9_meet_20 : decode cX9_meet 20 = .ok (.aload_n 0, 1) := by decide +kernel
theorem dX9_meet_21 : decode cX9_meet 21 = .ok (.getfield 73, 3) := by decide +kernel
theorem dX9_meet_24 : decode cX9_meet 24 = .ok (.iload_n 3, 1) := by decide +kernel
theorem dX9_meet_25 : decode cX9_meet 25 = .ok (.iaload, 1) := by decide +kernel
theorem dX9_meet_26 : decode cX9_meet 26 = .ok (.imul, 1) := by decide +kernel
theorem dX9_meet_27 : decode cX9_meet 27 = .ok (.aload_n 0, 1) := by decide +kernel
theorem dX9_meet_28 : decode cX9_meet 28 = .ok (.getfield 146, 3) := by decide +kernel
theorem dX9_meet_31 : decode cX9_meet 31 = .ok (.irem, 1) := by decide +kernel
theorem dX9_meet_32 : decode cX9_meet 32 = .ok (.aload_n 0, 1) := by decide +kernel
theorem dX9_meet_33 : decode cX9_meet 33 = .ok (.getfield 70, 3) := by decide +kernel
theorem dX9_meet_36 : decode cX9_meet 36 = .ok (.bipush 8, 2) := by decide +kernel
theorem dX9_meet_38 : decode cX9_meet 38 = .ok (.iload_n 1, 1) := by decide +kernel
theorem dX9_meet_39 : decode cX9_meet 39 = .ok (.imul, 1) := by decide +kernel
theorem dX9_meet_40 : decode cX9_meet 40 = .ok (.aload_n 0, 1) := by decide +kernel
theorem dX9_meet_41 : decode cX9_meet 41 = .ok (.iload_n 3, 1) := by decide +kernel
theorem dX9_meet_42 : decode cX9_meet 42 = .ok (.invokevirtual 215, 3) := by decide +kernel
theorem dX9_meet_45 : decode cX9_meet 45 = .ok (.iadd, 1) := by decide +kernel
theorem dX9_meet_46 : decode cX9_meet 46 = .ok (.iaload, 1) := by decide +kernel
theorem dX9_meet_47 : decode cX9_meet 47 = .ok (.imul, 1) := by decide +kernel
theorem dX9_meet_48 : decode cX9_meet 48 = .ok (.iadd, 1) := by decide +kernel
theorem dX9_meet_49 : decode cX9_meet 49 = .ok (.invokevirtual 188, 3) := by decide +kernel
theorem dX9_meet_52 : decode cX9_meet 52 = .ok (.istore_n 2, 1) := by decide +kernel
theorem dX9_meet_53 : decode cX9_meet 53 = .ok (.iinc 3 1, 3) := by decide +kernel
theorem dX9_meet_56 : decode cX9_meet 56 = .ok (.goto (-52), 3) := by decide +kernel
theorem dX9_meet_59 : decode cX9_meet 59 = .ok (.aload_n 0, 1) := by decide +kernel
theorem dX9_meet_60 : decode cX9_meet 60 = .ok (.iload_n 2, 1) := by decide +kernel
theorem dX9_meet_61 : decode cX9_meet 61 = .ok (.aload_n 0, 1) := by decide +kernel
theorem dX9_meet_62 : decode cX9_meet 62 = .ok (.getfield 127, 3) := by decide +kernel
theorem dX9_meet_65 : decode cX9_meet 65 = .ok (.invokevirtual 195, 3) := by decide +kernel
theorem dX9_meet_68 : decode cX9_meet 68 = .ok (.ireturn, 1) := by decide +kernel
theorem dX9_mirrorOf_0 : decode cX9_mirrorOf 0 = .ok (.iconst 0, 1) := by decide +kernel
theorem dX9_mirrorOf_1 : decode cX9_mirrorOf 1 = .ok (.istore_n 2, 1) := by decide +kernel
theorem dX9_mirrorOf_2 : decode cX9_mirrorOf 2 = .ok (.iconst 0, 1) := by decide +kernel
theorem dX9_mirrorOf_3 : decode cX9_mirrorOf 3 = .ok (.istore_n 3, 1) := by decide +kernel
theorem dX9_mirrorOf_4 : decode cX9_mirrorOf 4 = .ok (.iload_n 3, 1) := by decide +kernel
theorem dX9_mirrorOf_5 : decode cX9_mirrorOf 5 = .ok (.aload_n 0, 1) := by decide +kernel
theorem dX9_mirrorOf_6 : decode cX9_mirrorOf 6 = .ok (.getfield 143, 3) := by decide +kernel
theorem dX9_mirrorOf_9 : decode cX9_mirrorOf 9 = .ok (.if_icmp .ge 39, 3) := by decide +kernel
theorem dX9_mirrorOf_12 : decode cX9_mirrorOf 12 = .ok (.aload_n 0, 1) := by decide +kernel
theorem dX9_mirrorOf_13 : decode cX9_mirrorOf 13 = .ok (.iload_n 2, 1) := by decide +kernel
theorem dX9_mirrorOf_14 : decode cX9_mirrorOf 14 = .ok (.aload_n 0, 1) := by decide +kernel
theorem dX9_mirrorOf_15 : decode cX9_mirrorOf 15 = .ok (.getfield 37, 3) := by decide +kernel
theorem dX9_mirrorOf_18 : decode cX9_mirrorOf 18 = .ok (.iload_n 3, 1) := by decide +kernel
theorem dX9_mirrorOf_19 : decode cX9_mirrorOf 19 = .ok (.iaload, 1) := by decide +kernel
theorem dX9_mirrorOf_20 : decode cX9_mirrorOf 20 = .ok (.aload_n 0, 1) := by decide +kernel
theorem dX9_mirrorOf_21 : decode cX9_mirrorOf 21 = .ok (.getfield 70, 3) := by decide +kernel
theorem dX9_mirrorOf_24 : decode cX9_mirrorOf 24 = .ok (.bipush 8, 2) := by decide +kernel
theorem dX9_mirrorOf_26 : decode cX9_mirrorOf 26 = .ok (.iload_n 1, 1) := by decide +kernel
theorem dX9_mirrorOf_27 : decode cX9_mirrorOf 27 = .ok (.imul, 1) := by decide +kernel
theorem dX9_mirrorOf_28 : decode cX9_mirrorOf 28 = .ok (.aload_n 0, 1) := by decide +kernel
theorem dX9_mirrorOf_29 : decode cX9_mirrorOf 29 = .ok (.iload_n 3, 1) := by decide +kernel
theorem dX9_mirrorOf_30 : decode cX9_mirrorOf 30 = .ok (.iconst 4, 1) := by decide +kernel
theorem dX9_mirrorOf_31 : decode cX9_mirrorOf 31 = .ok (.invokevirtual 243, 3) := by decide +kernel
theorem dX9_mirrorOf_34 : decode cX9_mirrorOf 34 = .ok (.iadd, 1) := by decide +kernel
theorem dX9_mirrorOf_35 : decode cX9_mirrorOf 35 = .ok (.iaload, 1) := by decide +kernel
theorem dX9_mirrorOf_36 : decode cX9_mirrorOf 36 = .ok (.imul, 1) := by decide +kernel
theorem dX9_mirrorOf_37 : decode cX9_mirrorOf 37 = .ok (.iadd, 1) := by decide +kernel
theorem dX9_mirrorOf_38 : decode cX9_mirrorOf 38 = .ok (.invokevirtual 188, 3) := by decide +kernel
theorem dX9_mirrorOf_41 : decode cX9_mirrorOf 41 = .ok (.istore_n 2, 1) := by decide +kernel
theorem dX9_mirrorOf_42 : decode cX9_mirrorOf 42 = .ok (.iinc 3 1, 3) := by decide +kernel
theorem dX9_mirrorOf_45 : decode cX9_mirrorOf 45 = .ok (.goto (-41), 3) := by decide +kernel
theorem dX9_mirrorOf_48 : decode cX9_mirrorOf 48 = .ok (.aload_n 0, 1) := by decide +kernel
theorem dX9_mirrorOf_49 : decode cX9_mirrorOf 49 = .ok (.iload_n 2, 1) := by decide +kernel
theorem dX9_mirrorOf_50 : decode cX9_mirrorOf 50 = .ok (.aload_n 0, 1) := by decide +kernel
theorem dX9_mirrorOf_51 : decode cX9_mirrorOf 51 = .ok (.getfield 127, 3) := by decide +kernel
theorem dX9_mirrorOf_54 : decode cX9_mirrorOf 54 = .ok (.invokevirtual 195, 3) := by decide +kernel
theorem dX9_mirrorOf_57 : decode cX9_mirrorOf 57 = .ok (.istore_n 3, 1) := by decide +kernel
theorem dX9_mirrorOf_58 : decode cX9_mirrorOf 58 = .ok (.iload_n 3, 1) := by decide +kernel
theorem dX9_mirrorOf_59 : decode cX9_mirrorOf 59 = .ok (.aload_n 0, 1) := by decide +kernel
theorem dX9_mirrorOf_60 : decode cX9_mirrorOf 60 = .ok (.getfield 146, 3) := by decide +kernel
theorem dX9_mirrorOf_63 : decode cX9_mirrorOf 63 = .ok (.iconst 1, 1) := by decide +kernel
theorem dX9_mirrorOf_64 : decode cX9_mirrorOf 64 = .ok (.isub, 1) := by decide +kernel
theorem dX9_mirrorOf_65 : decode cX9_mirrorOf 65 = .ok (.if_icmp .ne 7, 3) := by decide +kernel
theorem dX9_mirrorOf_68 : decode cX9_mirrorOf 68 = .ok (.iconst (-1), 1) := by decide +kernel
theorem dX9_mirrorOf_69 : decode cX9_mirrorOf 69 = .ok (.goto 4, 3) := by decide +kernel
theorem dX9_mirrorOf_72 : decode cX9_mirrorOf 72 = .ok (.iload_n 3, 1) := by decide +kernel
theorem dX9_mirrorOf_73 : decode cX9_mirrorOf 73 = .ok (.ireturn, 1) := by decide +kernel
theorem dX9_mirror_0 : decode cX9_mirror 0 = .ok (.aload_n 0, 1) := by decide +kernel
theorem dX9_mirror_1 : decode cX9_mirror 1 = .ok (.iload_n 1, 1) := by decide +kernel
theorem dX9_mirror_2 : decode cX9_mirror 2 = .ok (.invokevirtual 240, 3) := by decide +kernel
theorem dX9_mirror_5 : decode cX9_mirror 5 = .ok (.ifCond .eq 11, 3) := by decide +kernel
theorem dX9_mirror_8 : decode cX9_mirror 8 = .ok (.aload_n 0, 1) := by decide +kernel
theorem dX9_mirror_9 : decode cX9_mirror 9 = .ok (.iload_n 1, 1) := by decide +kernel
theorem dX9_mirror_10 : decode cX9_mirror 10 = .ok (.invokevirtual 246, 3) := by decide +kernel
theorem dX9_mirror_13 : decode cX9_mirror 13 = .ok (.goto 9, 3) := by decide +kernel
theorem dX9_mirror_16 : decode cX9_mirror 16 = .ok (.aload_n 0, 1) := by decide +kernel
theorem dX9_mirror_17 : decode cX9_mirror 17 = .ok (.bipush (-2), 2) := by decide +kernel
theorem dX9_mirror_19 : decode cX9_mirror 19 = .ok (.invokevirtual 89, 3) := by decide +kernel
theorem dX9_mirror_22 : decode cX9_mirror 22 = .ok (.ireturn, 1) := by decide +kernel
theorem dX9_blind_0 : decode cX9_blind 0 = .ok (.aload_n 0, 1) := by decide +kernel
theorem dX9_blind_1 : decode cX9_blind 1 = .ok (.iload_n 1, 1) := by decide +kernel
theorem dX9_blind_2 : decode cX9_blind 2 = .ok (.invokevirtual 240, 3) := by decide +kernel
theorem dX9_blind_5 : decode cX9_blind 5 = .ok (.ifCond .ne 10, 3) := by decide +kernel
theorem dX9_blind_8 : decode cX9_blind 8 = .ok (.aload_n 0, 1) := by decide +kernel
theorem dX9_blind_9 : decode cX9_blind 9 = .ok (.bipush (-2), 2) := by decide +kernel
theorem dX9_blind_11 : decode cX9_blind 11 = .ok (.invokevirtual 89, 3) := by decide +kernel
theorem dX9_blind_14 : decode cX9_blind 14 = .ok (.ireturn, 1) := by decide +kernel
theorem dX9_blind_15 : decode cX9_blind 15 = .ok (.iconst 0, 1) := by decide +kernel
theorem dX9_blind_16 : decode cX9_blind 16 = .ok (.istore_n 2, 1) := by decide +kernel
theorem dX9_blind_17 : decode cX9_blind 17 = .ok (.iconst 0, 1) := by decide +kernel
theorem dX9_blind_18 : decode cX9_blind 18 = .ok (.istore_n 3, 1) := by decide +kernel
theorem dX9_blind_19 : decode cX9_blind 19 = .ok (.iload_n 3, 1) := by decide +kernel
theorem dX9_blind_20 : decode cX9_blind 20 = .ok (.aload_n 0, 1) := by decide +kernel
theorem dX9_blind_21 : decode cX9_blind 21 = .ok (.getfield 143, 3) := by decide +kernel
theorem dX9_blind_24 : decode cX9_blind 24 = .ok (.if_icmp .ge 39, 3) := by decide +kernel
theorem dX9_blind_27 : decode cX9_blind 27 = .ok (.iload_n 2, 1) := by decide +kernel
theorem dX9_blind_28 : decode cX9_blind 28 = .ok (.aload_n 0, 1) := by decide +kernel
theorem dX9_blind_29 : decode cX9_blind 29 = .ok (.getfield 70, 3) := by decide +kernel
theorem dX9_blind_32 : decode cX9_blind 32 = .ok (.bipush 8, 2) := by decide +kernel
theorem dX9_blind_34 : decode cX9_blind 34 = .ok (.iload_n 1, 1) := by decide +kernel
theorem dX9_blind_35 : decode cX9_blind 35 = .ok (.imul, 1) := by decide +kernel
theorem dX9_blind_36 : decode cX9_blind 36 = .ok (.iload_n 3, 1) := by decide +kernel
theorem dX9_blind_37 : decode cX9_blind 37 = .ok (.iadd, 1) := by decide +kernel
theorem dX9_blind_38 : decode cX9_blind 38 = .ok (.iaload, 1) := by decide +kernel
theorem dX9_blind_39 : decode cX9_blind 39 = .ok (.aload_n 0, 1) := by decide +kernel
theorem dX9_blind_40 : decode cX9_blind 40 = .ok (.getfield 67, 3) := by decide +kernel
theorem dX9_blind_43 : decode cX9_blind 43 = .ok (.iload_n 1, 1) := by decide +kernel
theorem dX9_blind_44 : decode cX9_blind 44 = .ok (.iaload, 1) := by decide +kernel
theorem dX9_blind_45 : decode cX9_blind 45 = .ok (.if_icmp .ne 9, 3) := by decide +kernel
theorem dX9_blind_48 : decode cX9_blind 48 = .ok (.iconst 1, 1) := by decide +kernel
theorem dX9_blind_49 : decode cX9_blind 49 = .ok (.iload_n 3, 1) := by decide +kernel
theorem dX9_blind_50 : decode cX9_blind 50 = .ok (.ishl, 1) := by decide +kernel
theorem dX9_blind_51 : decode cX9_blind 51 = .ok (.goto 4, 3) := by decide +kernel
theorem dX9_blind_54 : decode cX9_blind 54 = .ok (.iconst 0, 1) := by decide +kernel
theorem dX9_blind_55 : decode cX9_blind 55 = .ok (.ior, 1) := by decide +kernel
theorem dX9_blind_56 : decode cX9_blind 56 = .ok (.istore_n 2, 1) := by decide +kernel
theorem dX9_blind_57 : decode cX9_blind 57 = .ok (.iinc 3 1, 3) := by decide +kernel
theorem dX9_blind_60 : decode cX9_blind 60 = .ok (.goto (-41), 3) := by decide +kernel
theorem dX9_blind_63 : decode cX9_blind 63 = .ok (.iload_n 2, 1) := by decide +kernel
theorem dX9_blind_64 : decode cX9_blind 64 = .ok (.ireturn, 1) := by decide +kernel
theorem dX9_multiply_0 : decode cX9_multiply 0 = .ok (.iconst 0, 1) := by decide +kernel
theorem dX9_multiply_1 : decode cX9_multiply 1 = .ok (.istore_n 3, 1) := by decide +kernel
theorem dX9_multiply_2 : decode cX9_multiply 2 = .ok (.iload_n 3, 1) := by decide +kernel
theorem dX9_multiply_3 : decode cX9_multiply 3 = .ok (.aload_n 0, 1) := by decide +kernel
theorem dX9_multiply_4 : decode cX9_multiply 4 = .ok (.getfield 143, 3) := by decide +kernel
theorem dX9_multiply_7 : decode cX9_multiply 7 = .ok (.if_icmp .ge 43, 3) := by decide +kernel
theorem dX9_multiply_10 : decode cX9_multiply 10 = .ok (.aload_n 0, 1) := by decide +kernel
theorem dX9_multiply_11 : decode cX9_multiply 11 = .ok (.getfield 73, 3) := by decide +kernel
theorem dX9_multiply_14 : decode cX9_multiply 14 = .ok (.iload_n 3, 1) := by decide +kernel
theorem dX9_multiply_15 : decode cX9_multiply 15 = .ok (.aload_n 0, 1) := by decide +kernel
theorem dX9_multiply_16 : decode cX9_multiply 16 = .ok (.getfield 70, 3) := by decide +kernel
theorem dX9_multiply_19 : decode cX9_multiply 19 = .ok (.bipush 8, 2) := by decide +kernel
theorem dX9_multiply_21 : decode cX9_multiply 21 = .ok (.iload_n 1, 1) := by decide +kernel
theorem dX9_multiply_22 : decode cX9_multiply 22 = .ok (.imul, 1) := by decide +kernel
theorem dX9_multiply_23 : decode cX9_multiply 23 = .ok (.iload_n 3, 1) := by decide +kernel
theorem dX9_multiply_24 : decode cX9_multiply 24 = .ok (.iadd, 1) := by decide +kernel
theorem dX9_multiply_25 : decode cX9_multiply 25 = .ok (.iaload, 1) := by decide +kernel
theorem dX9_multiply_26 : decode cX9_multiply 26 = .ok (.aload_n 0, 1) := by decide +kernel
theorem dX9_multiply_27 : decode cX9_multiply 27 = .ok (.getfield 70, 3) := by decide +kernel
theorem dX9_multiply_30 : decode cX9_multiply 30 = .ok (.bipush 8, 2) := by decide +kernel
theorem dX9_multiply_32 : decode cX9_multiply 32 = .ok (.iload_n 2, 1) := by decide +kernel
theorem dX9_multiply_33 : decode cX9_multiply 33 = .ok (.imul, 1) := by decide +kernel
theorem dX9_multiply_34 : decode cX9_multiply 34 = .ok (.iload_n 3, 1) := by decide +kernel
theorem dX9_multiply_35 : decode cX9_multiply 35 = .ok (.iadd, 1) := by decide +kernel
theorem dX9_multiply_36 : decode cX9_multiply 36 = .ok (.iaload, 1) := by decide +kernel
theorem dX9_multiply_37 : decode cX9_multiply 37 = .ok (.imul, 1) := by decide +kernel
theorem dX9_multiply_38 : decode cX9_multiply 38 = .ok (.aload_n 0, 1) := by decide +kernel
theorem dX9_multiply_39 : decode cX9_multiply 39 = .ok (.getfield 146, 3) := by decide +kernel
theorem dX9_multiply_42 : decode cX9_multiply 42 = .ok (.irem, 1) := by decide +kernel
theorem dX9_multiply_43 : decode cX9_multiply 43 = .ok (.iastore, 1) := by decide +kernel
theorem dX9_multiply_44 : decode cX9_multiply 44 = .ok (.iinc 3 1, 3) := by decide +kernel
theorem dX9_multiply_47 : decode cX9_multiply 47 = .ok (.goto (-45), 3) := by decide +kernel
theorem dX9_multiply_50 : decode cX9_multiply 50 = .ok (.return_, 1) := by decide +kernel
theorem dX9_within_0 : decode cX9_within 0 = .ok (.aload_n 0, 1) := by decide +kernel
theorem dX9_within_1 : decode cX9_within 1 = .ok (.iload_n 1, 1) := by decide +kernel
theorem dX9_within_2 : decode cX9_within 2 = .ok (.invokevirtual 240, 3) := by decide +kernel
theorem dX9_within_5 : decode cX9_within 5 = .ok (.ifCond .eq 19, 3) := by decide +kernel
theorem dX9_within_8 : decode cX9_within 8 = .ok (.aload_n 0, 1) := by decide +kernel
theorem dX9_within_9 : decode cX9_within 9 = .ok (.iload_n 2, 1) := by decide +kernel
theorem dX9_within_10 : decode cX9_within 10 = .ok (.invokevirtual 240, 3) := by decide +kernel
theorem dX9_within_13 : decode cX9_within 13 = .ok (.ifCond .eq 11, 3) := by decide +kernel
theorem dX9_within_16 : decode cX9_within 16 = .ok (.aload_n 0, 1) := by decide +kernel
theorem dX9_within_17 : decode cX9_within 17 = .ok (.iload_n 3, 1) := by decide +kernel
theorem dX9_within_18 : decode cX9_within 18 = .ok (.invokevirtual 240, 3) := by decide +kernel
theorem dX9_within_21 : decode cX9_within 21 = .ok (.ifCond .ne 10, 3) := by decide +kernel
theorem dX9_within_24 : decode cX9_within 24 = .ok (.aload_n 0, 1) := by decide +kernel
theorem dX9_within_25 : decode cX9_within 25 = .ok (.bipush (-2), 2) := by decide +kernel
theorem dX9_within_27 : decode cX9_within 27 = .ok (.invokevirtual 89, 3) := by decide +kernel
theorem dX9_within_30 : decode cX9_within 30 = .ok (.ireturn, 1) := by decide +kernel
theorem dX9_within_31 : decode cX9_within 31 = .ok (.aload_n 0, 1) := by decide +kernel
theorem dX9_within_32 : decode cX9_within 32 = .ok (.iload_n 1, 1) := by decide +kernel
theorem dX9_within_33 : decode cX9_within 33 = .ok (.iload_n 2, 1) := by decide +kernel
theorem dX9_within_34 : decode cX9_within 34 = .ok (.invokevirtual 249, 3) := by decide +kernel
theorem dX9_within_37 : decode cX9_within 37 = .ok (.aload_n 0, 1) := by decide +kernel
theorem dX9_within_38 : decode cX9_within 38 = .ok (.iload_n 3, 1) := by decide +kernel
theorem dX9_within_39 : decode cX9_within 39 = .ok (.invokevirtual 253, 3) := by decide +kernel
theorem dX9_within_42 : decode cX9_within 42 = .ok (.ireturn, 1) := by decide +kernel
theorem dX9_natural_0 : decode cX9_natural 0 = .ok (.aload_n 0, 1) := by decide +kernel
theorem dX9_natural_1 : decode cX9_natural 1 = .ok (.iload_n 1, 1) := by decide +kernel
theorem dX9_natural_2 : decode cX9_natural 2 = .ok (.invokevirtual 240, 3) := by decide +kernel
theorem dX9_natural_5 : decode cX9_natural 5 = .ok (.ifCond .ne 10, 3) := by decide +kernel
theorem dX9_natural_8 : decode cX9_natural 8 = .ok (.aload_n 0, 1) := by decide +kernel
theorem dX9_natural_9 : decode cX9_natural 9 = .ok (.bipush (-2), 2) := by decide +kernel
theorem dX9_natural_11 : decode cX9_natural 11 = .ok (.invokevirtual 89, 3) := by decide +kernel
theorem dX9_natural_14 : decode cX9_natural 14 = .ok (.ireturn, 1) := by decide +kernel
theorem dX9_natural_15 : decode cX9_natural 15 = .ok (.iconst 0, 1) := by decide +kernel
theorem dX9_natural_16 : decode cX9_natural 16 = .ok (.istore_n 2, 1) := by decide +kernel
theorem dX9_natural_17 : decode cX9_natural 17 = .ok (.iload_n 2, 1) := by decide +kernel
theorem dX9_natural_18 : decode cX9_natural 18 = .ok (.aload_n 0, 1) := by decide +kernel
theorem dX9_natural_19 : decode cX9_natural 19 = .ok (.getfield 143, 3) := by decide +kernel
theorem dX9_natural_22 : decode cX9_natural 22 = .ok (.if_icmp .ge 20, 3) := by decide +kernel
theorem dX9_natural_25 : decode cX9_natural 25 = .ok (.aload_n 0, 1) := by decide +kernel
theorem dX9_natural_26 : decode cX9_natural 26 = .ok (.getfield 73, 3) := by decide +kernel
theorem dX9_natural_29 : decode cX9_natural 29 = .ok (.iload_n 2, 1) := by decide +kernel
theorem dX9_natural_30 : decode cX9_natural 30 = .ok (.aload_n 0, 1) := by decide +kernel
theorem dX9_natural_31 : decode cX9_natural 31 = .ok (.iload_n 2, 1) := by decide +kernel
theorem dX9_natural_32 : decode cX9_natural 32 = .ok (.invokevirtual 237, 3) := by decide +kernel
theorem dX9_natural_35 : decode cX9_natural 35 = .ok (.iastore, 1) := by decide +kernel
theorem dX9_natural_36 : decode cX9_natural 36 = .ok (.iinc 2 1, 3) := by decide +kernel
theorem dX9_natural_39 : decode cX9_natural 39 = .ok (.goto (-22), 3) := by decide +kernel
theorem dX9_natural_42 : decode cX9_natural 42 = .ok (.aload_n 0, 1) := by decide +kernel
theorem dX9_natural_43 : decode cX9_natural 43 = .ok (.iload_n 1, 1) := by decide +kernel
theorem dX9_natural_44 : decode cX9_natural 44 = .ok (.invokevirtual 253, 3) := by decide +kernel
theorem dX9_natural_47 : decode cX9_natural 47 = .ok (.ireturn, 1) := by decide +kernel
theorem dX9_turned_0 : decode cX9_turned 0 = .ok (.aload_n 0, 1) := by decide +kernel
theorem dX9_turned_1 : decode cX9_turned 1 = .ok (.iload_n 1, 1) := by decide +kernel
theorem dX9_turned_2 : decode cX9_turned 2 = .ok (.invokevirtual 240, 3) := by decide +kernel
theorem dX9_turned_5 : decode cX9_turned 5 = .ok (.ifCond .eq 11, 3) := by decide +kernel
theorem dX9_turned_8 : decode cX9_turned 8 = .ok (.aload_n 0, 1) := by decide +kernel
theorem dX9_turned_9 : decode cX9_turned 9 = .ok (.iload_n 2, 1) := by decide +kernel
theorem dX9_turned_10 : decode cX9_turned 10 = .ok (.invokevirtual 240, 3) := by decide +kernel
theorem dX9_turned_13 : decode cX9_turned 13 = .ok (.ifCond .ne 10, 3) := by decide +kernel
theorem dX9_turned_16 : decode cX9_turned 16 = .ok (.aload_n 0, 1) := by decide +kernel
theorem dX9_turned_17 : decode cX9_turned 17 = .ok (.bipush (-2), 2) := by decide +kernel
theorem dX9_turned_19 : decode cX9_turned 19 = .ok (.invokevirtual 89, 3) := by decide +kernel
theorem dX9_turned_22 : decode cX9_turned 22 = .ok (.ireturn, 1) := by decide +kernel
theorem dX9_turned_23 : decode cX9_turned 23 = .ok (.aload_n 0, 1) := by decide +kernel
theorem dX9_turned_24 : decode cX9_turned 24 = .ok (.getfield 67, 3) := by decide +kernel
theorem dX9_turned_27 : decode cX9_turned 27 = .ok (.iload_n 2, 1) := by decide +kernel
theorem dX9_turned_28 : decode cX9_turned 28 = .ok (.iaload, 1) := by decide +kernel
theorem dX9_turned_29 : decode cX9_turned 29 = .ok (.iconst 1, 1) := by decide +kernel
theorem dX9_turned_30 : decode cX9_turned 30 = .ok (.if_icmp .eq 10, 3) := by decide +kernel
theorem dX9_turned_33 : decode cX9_turned 33 = .ok (.aload_n 0, 1) := by decide +kernel
theorem dX9_turned_34 : decode cX9_turned 34 = .ok (.bipush (-3), 2) := by decide +kernel
theorem dX9_turned_36 : decode cX9_turned 36 = .ok (.invokevirtual 89, 3) := by decide +kernel
theorem dX9_turned_39 : decode cX9_turned 39 = .ok (.ireturn, 1) := by decide +kernel
theorem dX9_turned_40 : decode cX9_turned 40 = .ok (.aload_n 0, 1) := by decide +kernel
theorem dX9_turned_41 : decode cX9_turned 41 = .ok (.iload_n 1, 1) := by decide +kernel
theorem dX9_turned_42 : decode cX9_turned 42 = .ok (.iload_n 2, 1) := by decide +kernel
theorem dX9_turned_43 : decode cX9_turned 43 = .ok (.invokevirtual 249, 3) := by decide +kernel
theorem dX9_turned_46 : decode cX9_turned 46 = .ok (.iconst 0, 1) := by decide +kernel
theorem dX9_turned_47 : decode cX9_turned 47 = .ok (.istore_n 3, 1) := by decide +kernel
theorem dX9_turned_48 : decode cX9_turned 48 = .ok (.iconst 0, 1) := by decide +kernel
theorem dX9_turned_49 : decode cX9_turned 49 = .ok (.istore 4, 2) := by decide +kernel
theorem dX9_turned_51 : decode cX9_turned 51 = .ok (.iload 4, 2) := by decide +kernel
theorem dX9_turned_53 : decode cX9_turned 53 = .ok (.ifCond .ne 74, 3) := by decide +kernel
theorem dX9_turned_56 : decode cX9_turned 56 = .ok (.iconst 1, 1) := by decide +kernel
theorem dX9_turned_57 : decode cX9_turned 57 = .ok (.istore 4, 2) := by decide +kernel
theorem dX9_turned_59 : decode cX9_turned 59 = .ok (.iconst 0, 1) := by decide +kernel
theorem dX9_turned_60 : decode cX9_turned 60 = .ok (.istore 5, 2) := by decide +kernel
theorem dX9_turned_62 : decode cX9_turned 62 = .ok (.iload 5, 2) := by decide +kernel
theorem dX9_turned_64 : decode cX9_turned 64 = .ok (.aload_n 0, 1) := by decide +kernel
theorem dX9_turned_65 : decode cX9_turned 65 = .ok (.getfield 143, 3) := by decide +kernel
theorem dX9_turned_68 : decode cX9_turned 68 = .ok (.if_icmp .ge 43, 3) := by decide +kernel
theorem dX9_turned_71 : decode cX9_turned 71 = .ok (.iload 4, 2) := by decide +kernel
theorem dX9_turned_73 : decode cX9_turned 73 = .ok (.ifCond .eq 29, 3) := by decide +kernel
theorem dX9_turned_76 : decode cX9_turned 76 = .ok (.aload_n 0, 1) := by decide +kernel
theorem dX9_turned_77 : decode cX9_turned 77 = .ok (.getfield 70, 3) := by decide +kernel
theorem dX9_turned_80 : decode cX9_turned 80 = .ok (.bipush 8, 2) := by decide +kernel
theorem dX9_turned_82 : decode cX9_turned 82 = .ok (.iload_n 3, 1) := by decide +kernel
theorem dX9_turned_83 : decode cX9_turned 83 = .ok (.imul, 1) := by decide +kernel
theorem dX9_turned_84 : decode cX9_turned 84 = .ok (.iload 5, 2) := by decide +kernel
theorem dX9_turned_86 : decode cX9_turned 86 = .ok (.iadd, 1) := by decide +kernel
theorem dX9_turned_87 : decode cX9_turned 87 = .ok (.iaload, 1) := by decide +kernel
theorem dX9_turned_88 : decode cX9_turned 88 = .ok (.aload_n 0, 1) := by decide +kernel
theorem dX9_turned_89 : decode cX9_turned 89 = .ok (.getfield 73, 3) := by decide +kernel
theorem dX9_turned_92 : decode cX9_turned 92 = .ok (.iload 5, 2) := by decide +kernel
theorem dX9_turned_94 : decode cX9_turned 94 = .ok (.iaload, 1) := by decide +kernel
theorem dX9_turned_95 : decode cX9_turned 95 = .ok (.if_icmp .ne 7, 3) := by decide +kernel
theorem dX9_turned_98 : decode cX9_turned 98 = .ok (.iconst 1, 1) := by decide +kernel
theorem dX9_turned_99 : decode cX9_turned 99 = .ok (.goto 4, 3) := by decide +kernel
theorem dX9_turned_102 : decode cX9_turned 102 = .ok (.iconst 0, 1) := by decide +kernel
theorem dX9_turned_103 : decode cX9_turned 103 = .ok (.istore 4, 2) := by decide +kernel
theorem dX9_turned_105 : decode cX9_turned 105 = .ok (.iinc 5 1, 3) := by decide +kernel
theorem dX9_turned_108 : decode cX9_turned 108 = .ok (.goto (-46), 3) := by decide +kernel
theorem dX9_turned_111 : decode cX9_turned 111 = .ok (.iload_n 3, 1) := by decide +kernel
theorem dX9_turned_112 : decode cX9_turned 112 = .ok (.iload 4, 2) := by decide +kernel
theorem dX9_turned_114 : decode cX9_turned 114 = .ok (.ifCond .eq 7, 3) := by decide +kernel
theorem dX9_turned_117 : decode cX9_turned 117 = .ok (.iconst 0, 1) := by decide +kernel
theorem dX9_turned_118 : decode cX9_turned 118 = .ok (.goto 4, 3) := by decide +kernel
theorem dX9_turned_121 : decode cX9_turned 121 = .ok (.iconst 1, 1) := by decide +kernel
theorem dX9_turned_122 : decode cX9_turned 122 = .ok (.iadd, 1) := by decide +kernel
theorem dX9_turned_123 : decode cX9_turned 123 = .ok (.istore_n 3, 1) := by decide +kernel
theorem dX9_turned_124 : decode cX9_turned 124 = .ok (.goto (-73), 3) := by decide +kernel
theorem dX9_turned_127 : decode cX9_turned 127 = .ok (.iload_n 3, 1) := by decide +kernel
theorem dX9_turned_128 : decode cX9_turned 128 = .ok (.ireturn, 1) := by decide +kernel
theorem dX9_type_0 : decode cX9_type 0 = .ok (.iload_n 1, 1) := by decide +kernel
theorem dX9_type_1 : decode cX9_type 1 = .ok (.iconst 0, 1) := by decide +kernel
theorem dX9_type_2 : decode cX9_type 2 = .ok (.bipush 127, 2) := by decide +kernel
theorem dX9_type_4 : decode cX9_type 4 = .ok (.invokestatic 100, 3) := by decide +kernel
theorem dX9_type_7 : decode cX9_type 7 = .ok (.ifCond .ne 10, 3) := by decide +kernel
theorem dX9_type_10 : decode cX9_type 10 = .ok (.aload_n 0, 1) := by decide +kernel
theorem dX9_type_11 : decode cX9_type 11 = .ok (.bipush (-2), 2) := by decide +kernel
theorem dX9_type_13 : decode cX9_type 13 = .ok (.invokevirtual 89, 3) := by decide +kernel
theorem dX9_type_16 : decode cX9_type 16 = .ok (.ireturn, 1) := by decide +kernel
theorem dX9_type_17 : decode cX9_type 17 = .ok (.aload_n 0, 1) := by decide +kernel
theorem dX9_type_18 : decode cX9_type 18 = .ok (.getfield 256, 3) := by decide +kernel
theorem dX9_type_21 : decode cX9_type 21 = .ok (.bipush 80, 2) := by decide +kernel
theorem dX9_type_23 : decode cX9_type 23 = .ok (.if_icmp .ne 10, 3) := by decide +kernel
theorem dX9_type_26 : decode cX9_type 26 = .ok (.aload_n 0, 1) := by decide +kernel
theorem dX9_type_27 : decode cX9_type 27 = .ok (.bipush (-4), 2) := by decide +kernel
theorem dX9_type_29 : decode cX9_type 29 = .ok (.invokevirtual 89, 3) := by decide +kernel
theorem dX9_type_32 : decode cX9_type 32 = .ok (.ireturn, 1) := by decide +kernel
theorem dX9_type_33 : decode cX9_type 33 = .ok (.aload_n 0, 1) := by decide +kernel
theorem dX9_type_34 : decode cX9_type 34 = .ok (.getfield 76, 3) := by decide +kernel
theorem dX9_type_37 : decode cX9_type 37 = .ok (.aload_n 0, 1) := by decide +kernel
theorem dX9_type_38 : decode cX9_type 38 = .ok (.getfield 256, 3) := by decide +kernel
theorem dX9_type_41 : decode cX9_type 41 = .ok (.iload_n 1, 1) := by decide +kernel
theorem dX9_type_42 : decode cX9_type 42 = .ok (.iastore, 1) := by decide +kernel
theorem dX9_type_43 : decode cX9_type 43 = .ok (.aload_n 0, 1) := by decide +kernel
theorem dX9_type_44 : decode cX9_type 44 = .ok (.dup, 1) := by decide +kernel
theorem dX9_type_45 : decode cX9_type 45 = .ok (.getfield 256, 3) := by decide +kernel
theorem dX9_type_48 : decode cX9_type 48 = .ok (.iconst 1, 1) := by decide +kernel
theorem dX9_type_49 : decode cX9_type 49 = .ok (.iadd, 1) := by decide +kernel
theorem dX9_type_50 : decode cX9_type 50 = .ok (.putfield 256, 3) := by decide +kernel
theorem dX9_type_53 : decode cX9_type 53 = .ok (.aload_n 0, 1) := by decide +kernel
theorem dX9_type_54 : decode cX9_type 54 = .ok (.getfield 256, 3) := by decide +kernel
theorem dX9_type_57 : decode cX9_type 57 = .ok (.ireturn, 1) := by decide +kernel
theorem dX9_clear_0 : decode cX9_clear 0 = .ok (.aload_n 0, 1) := by decide +kernel
theorem dX9_clear_1 : decode cX9_clear 1 = .ok (.getfield 256, 3) := by decide +kernel
theorem dX9_clear_4 : decode cX9_clear 4 = .ok (.istore_n 1, 1) := by decide +kernel
theorem dX9_clear_5 : decode cX9_clear 5 = .ok (.aload_n 0, 1) := by decide +kernel
theorem dX9_clear_6 : decode cX9_clear 6 = .ok (.iconst 0, 1) := by decide +kernel
theorem dX9_clear_7 : decode cX9_clear 7 = .ok (.putfield 256, 3) := by decide +kernel
theorem dX9_clear_10 : decode cX9_clear 10 = .ok (.iload_n 1, 1) := by decide +kernel
theorem dX9_clear_11 : decode cX9_clear 11 = .ok (.ireturn, 1) := by decide +kernel
theorem dX9_here_0 : decode cX9_here 0 = .ok (.aload_n 0, 1) := by decide +kernel
theorem dX9_here_1 : decode cX9_here 1 = .ok (.getfield 259, 3) := by decide +kernel
theorem dX9_here_4 : decode cX9_here 4 = .ok (.aload_n 0, 1) := by decide +kernel
theorem dX9_here_5 : decode cX9_here 5 = .ok (.getfield 256, 3) := by decide +kernel
theorem dX9_here_8 : decode cX9_here 8 = .ok (.if_icmp .ge 30, 3) := by decide +kernel
theorem dX9_here_11 : decode cX9_here 11 = .ok (.aload_n 0, 1) := by decide +kernel
theorem dX9_here_12 : decode cX9_here 12 = .ok (.getfield 76, 3) := by decide +kernel
theorem dX9_here_15 : decode cX9_here 15 = .ok (.aload_n 0, 1) := by decide +kernel
theorem dX9_here_16 : decode cX9_here 16 = .ok (.getfield 259, 3) := by decide +kernel
theorem dX9_here_19 : decode cX9_here 19 = .ok (.iaload, 1) := by decide +kernel
theorem dX9_here_20 : decode cX9_here 20 = .ok (.bipush 32, 2) := by decide +kernel
theorem dX9_here_22 : decode cX9_here 22 = .ok (.if_icmp .ne 16, 3) := by decide +kernel
theorem dX9_here_25 : decode cX9_here 25 = .ok (.aload_n 0, 1) := by decide +kernel
theorem dX9_here_26 : decode cX9_here 26 = .ok (.dup, 1) := by decide +kernel
theorem dX9_here_27 : decode cX9_here 27 = .ok (.getfield 259, 3) := by decide +kernel
theorem dX9_here_30 : decode cX9_here 30 = .ok (.iconst 1, 1) := by decide +kernel
theorem dX9_here_31 : decode cX9_here 31 = .ok (.iadd, 1) := by decide +kernel
theorem dX9_here_32 : decode cX9_here 32 = .ok (.putfield 259, 3) := by decide +kernel
theorem dX9_here_35 : decode cX9_here 35 = .ok (.goto (-35), 3) := by decide +kernel
theorem dX9_here_38 : decode cX9_here 38 = .ok (.aload_n 0, 1) := by decide +kernel
theorem dX9_here_39 : decode cX9_here 39 = .ok (.getfield 259, 3) := by decide +kernel
theorem dX9_here_42 : decode cX9_here 42 = .ok (.aload_n 0, 1) := by decide +kernel
theorem dX9_here_43 : decode cX9_here 43 = .ok (.getfield 256, 3) := by decide +kernel
theorem dX9_here_46 : decode cX9_here 46 = .ok (.if_icmp .ge 15, 3) := by decide +kernel
theorem dX9_here_49 : decode cX9_here 49 = .ok (.aload_n 0, 1) := by decide +kernel
theorem dX9_here_50 : decode cX9_here 50 = .ok (.getfield 76, 3) := by decide +kernel
theorem dX9_here_53 : decode cX9_here 53 = .ok (.aload_n 0, 1) := by decide +kernel
theorem dX9_here_54 : decode cX9_here 54 = .ok (.getfield 259, 3) := by decide +kernel
theorem dX9_here_57 : decode cX9_here 57 = .ok (.iaload, 1) := by decide +kernel
theorem dX9_here_58 : decode cX9_here 58 = .ok (.goto 4, 3) := by decide +kernel
theorem dX9_here_61 : decode cX9_here 61 = .ok (.iconst (-1), 1) := by decide +kernel
theorem dX9_here_62 : decode cX9_here 62 = .ok (.ireturn, 1) := by decide +kernel
theorem dX9_must_0 : decode cX9_must 0 = .ok (.aload_n 0, 1) := by decide +kernel
theorem dX9_must_1 : decode cX9_must 1 = .ok (.getfield 262, 3) := by decide +kernel
theorem dX9_must_4 : decode cX9_must 4 = .ok (.iconst (-1), 1) := by decide +kernel
theorem dX9_must_5 : decode cX9_must 5 = .ok (.if_icmp .ne 28, 3) := by decide +kernel
theorem dX9_must_8 : decode cX9_must 8 = .ok (.iload_n 1, 1) := by decide +kernel
theorem dX9_must_9 : decode cX9_must 9 = .ok (.ifCond .eq 16, 3) := by decide +kernel
theorem dX9_must_12 : decode cX9_must 12 = .ok (.aload_n 0, 1) := by decide +kernel
theorem dX9_must_13 : decode cX9_must 13 = .ok (.dup, 1) := by decide +kernel
theorem dX9_must_14 : decode cX9_must 14 = .ok (.getfield 259, 3) := by decide +kernel
theorem dX9_must_17 : decode cX9_must 17 = .ok (.iconst 1, 1) := by decide +kernel
theorem dX9_must_18 : decode cX9_must 18 = .ok (.iadd, 1) := by decide +kernel
theorem dX9_must_19 : decode cX9_must 19 = .ok (.putfield 259, 3) := by decide +kernel
theorem dX9_must_22 : decode cX9_must 22 = .ok (.goto 11, 3) := by decide +kernel
theorem dX9_must_25 : decode cX9_must 25 = .ok (.aload_n 0, 1) := by decide +kernel
theorem dX9_must_26 : decode cX9_must 26 = .ok (.aload_n 0, 1) := by decide +kernel
theorem dX9_must_27 : decode cX9_must 27 = .ok (.getfield 259, 3) := by decide +kernel
theorem dX9_must_30 : decode cX9_must 30 = .ok (.putfield 262, 3) := by decide +kernel
theorem dX9_must_33 : decode cX9_must 33 = .ok (.return_, 1) := by decide +kernel
theorem dX9_figure_0 : decode cX9_figure 0 = .ok (.aload_n 0, 1) := by decide +kernel
theorem dX9_figure_1 : decode cX9_figure 1 = .ok (.invokevirtual 265, 3) := by decide +kernel
theorem dX9_figure_4 : decode cX9_figure 4 = .ok (.bipush 48, 2) := by decide +kernel
theorem dX9_figure_6 : decode cX9_figure 6 = .ok (.isub, 1) := by decide +kernel
theorem dX9_figure_7 : decode cX9_figure 7 = .ok (.istore_n 3, 1) := by decide +kernel
theorem dX9_figure_8 : decode cX9_figure 8 = .ok (.aload_n 0, 1) := by decide +kernel
theorem dX9_figure_9 : decode cX9_figure 9 = .ok (.iload_n 3, 1) := by decide +kernel
theorem dX9_figure_10 : decode cX9_figure 10 = .ok (.iload_n 1, 1) := by decide +kernel
theorem dX9_figure_11 : decode cX9_figure 11 = .ok (.iload_n 2, 1) := by decide +kernel
theorem dX9_figure_12 : decode cX9_figure 12 = .ok (.invokestatic 100, 3) := by decide +kernel
theorem dX9_figure_15 : decode cX9_figure 15 = .ok (.invokevirtual 268, 3) := by decide +kernel
theorem dX9_figure_18 : decode cX9_figure 18 = .ok (.iload_n 3, 1) := by decide +kernel
theorem dX9_figure_19 : decode cX9_figure 19 = .ok (.ireturn, 1) := by decide +kernel
theorem dX9_readMove_0 : decode cX9_readMove 0 = .ok (.iconst 0, 1) := by decide +kernel
theorem dX9_readMove_1 : decode cX9_readMove 1 = .ok (.istore_n 1, 1) := by decide +kernel
theorem dX9_readMove_2 : decode cX9_readMove 2 = .ok (.iconst 0, 1) := by decide +kernel
theorem dX9_readMove_3 : decode cX9_readMove 3 = .ok (.istore_n 2, 1) := by decide +kernel
theorem dX9_readMove_4 : decode cX9_readMove 4 = .ok (.iconst 0, 1) := by decide +kernel
theorem dX9_readMove_5 : decode cX9_readMove 5 = .ok (.istore_n 3, 1) := by decide +kernel
theorem dX9_readMove_6 : decode cX9_readMove 6 = .ok (.iload_n 3, 1) := by decide +kernel
theorem dX9_readMove_7 : decode cX9_readMove 7 = .ok (.aload_n 0, 1) := by decide +kernel
theorem dX9_readMove_8 : decode cX9_readMove 8 = .ok (.getfield 272, 3) := by decide +kernel
theorem dX9_readMove_11 : decode cX9_readMove 11 = .ok (.if_icmp .ge 86, 3) := by decide +kernel
theorem dX9_readMove_14 : decode cX9_readMove 14 = .ok (.aload_n 0, 1) := by decide +kernel
theorem dX9_readMove_15 : decode cX9_readMove 15 = .ok (.getfield 262, 3) := by decide +kernel
theorem dX9_readMove_18 : decode cX9_readMove 18 = .ok (.iconst (-1), 1) := by decide +kernel
theorem dX9_readMove_19 : decode cX9_readMove 19 = .ok (.if_icmp .ne 78, 3) := by decide +kernel
theorem dX9_readMove_22 : decode cX9_readMove 22 = .ok (.aload_n 0, 1) := by decide +kernel
theorem dX9_readMove_23 : decode cX9_readMove 23 = .ok (.invokevirtual 265, 3) := by decide +kernel
theorem dX9_readMove_26 : decode cX9_readMove 26 = .ok (.bipush 48, 2) := by decide +kernel
theorem dX9_readMove_28 : decode cX9_readMove 28 = .ok (.isub, 1) := by decide +kernel
theorem dX9_readMove_29 : decode cX9_readMove 29 = .ok (.istore 4, 2) := by decide +kernel
theorem dX9_readMove_31 : decode cX9_readMove 31 = .ok (.aload_n 0, 1) := by decide +kernel
theorem dX9_readMove_32 : decode cX9_readMove 32 = .ok (.iload 4, 2) := by decide +kernel
theorem dX9_readMove_34 : decode cX9_readMove 34 = .ok (.iconst 0, 1) := by decide +kernel
theorem dX9_readMove_35 : decode cX9_readMove 35 = .ok (.aload_n 0, 1) := by decide +kernel
theorem dX9_readMove_36 : decode cX9_readMove 36 = .ok (.getfield 272, 3) := by decide +kernel
theorem dX9_readMove_39 : decode cX9_readMove 39 = .ok (.iconst 1, 1) := by decide +kernel
theorem dX9_readMove_40 : decode cX9_readMove 40 = .ok (.isub, 1) := by decide +kernel
theorem dX9_readMove_41 : decode cX9_readMove 41 = .ok (.invokestatic 100, 3) := by decide +kernel
theorem dX9_readMove_44 : decode cX9_readMove 44 = .ok (.ifCond .eq 16, 3) := by decide +kernel
theorem dX9_readMove_47 : decode cX9_readMove 47 = .ok (.iload_n 1, 1) := by decide +kernel
theorem dX9_readMove_48 : decode cX9_readMove 48 = .ok (.iload 4, 2) := by decide +kernel
theorem dX9_readMove_50 : decode cX9_readMove 50 = .ok (.invokestatic 275, 3) := by decide +kernel
theorem dX9_readMove_53 : decode cX9_readMove 53 = .ok (.ifCond .ne 7, 3) := by decide +kernel
theorem dX9_readMove_56 : decode cX9_readMove 56 = .ok (.iconst 1, 1) := by decide +kernel
theorem dX9_readMove_57 : decode cX9_readMove 57 = .ok (.goto 4, 3) := by decide +kernel
theorem dX9_readMove_60 : decode cX9_readMove 60 = .ok (.iconst 0, 1) := by decide +kernel
theorem dX9_readMove_61 : decode cX9_readMove 61 = .ok (.invokevirtual 268, 3) := by decide +kernel
theorem dX9_readMove_64 : decode cX9_readMove 64 = .ok (.iload_n 1, 1) := by decide +kernel
theorem dX9_readMove_65 : decode cX9_readMove 65 = .ok (.aload_n 0, 1) := by decide +kernel
theorem dX9_readMove_66 : decode cX9_readMove 66 = .ok (.getfield 262, 3) := by decide +kernel
theorem dX9_readMove_69 : decode cX9_readMove 69 = .ok (.iconst (-1), 1) := by decide +kernel
theorem dX9_readMove_70 : decode cX9_readMove 70 = .ok (.if_icmp .ne 10, 3) := by decide +kernel
theorem dX9_readMove_73 : decode cX9_readMove 73 = .ok (.iconst 1, 1) := by decide +kernel
theorem dX9_readMove_74 : decode cX9_readMove 74 = .ok (.iload 4, 2) := by decide +kernel
theorem dX9_readMove_76 : decode cX9_readMove 76 = .ok (.ishl, 1) := by decide +kernel
theorem dX9_readMove_77 : decode cX9_readMove 77 = .ok (.goto 4, 3) := by decide +kernel
theorem dX9_readMove_80 : decode cX9_readMove 80 = .ok (.iconst 0, 1) := by decide +kernel
theorem dX9_readMove_81 : decode cX9_readMove 81 = .ok (.ior, 1) := by decide +kernel
theorem dX9_readMove_82 : decode cX9_readMove 82 = .ok (.istore_n 1, 1) := by decide +kernel
theorem dX9_readMove_83 : decode cX9_readMove 83 = .ok (.bipush 10, 2) := by decide +kernel
theorem dX9_readMove_85 : decode cX9_readMove 85 = .ok (.iload_n 2, 1) := by decide +kernel
theorem dX9_readMove_86 : decode cX9_readMove 86 = .ok (.imul, 1) := by decide +kernel
theorem dX9_readMove_87 : decode cX9_readMove 87 = .ok (.iload 4, 2) := by decide +kernel
theorem dX9_readMove_89 : decode cX9_readMove 89 = .ok (.iadd, 1) := by decide +kernel
theorem dX9_readMove_90 : decode cX9_readMove 90 = .ok (.istore_n 2, 1) := by decide +kernel
theorem dX9_readMove_91 : decode cX9_readMove 91 = .ok (.iinc 3 1, 3) := by decide +kernel
theorem dX9_readMove_94 : decode cX9_readMove 94 = .ok (.goto (-88), 3) := by decide +kernel
theorem dX9_readMove_97 : decode cX9_readMove 97 = .ok (.iload_n 2, 1) := by decide +kernel
theorem dX9_readMove_98 : decode cX9_readMove 98 = .ok (.ireturn, 1) := by decide +kernel
theorem dX9_readOrder_0 : decode cX9_readOrder 0 = .ok (.aload_n 0, 1) := by decide +kernel
theorem dX9_readOrder_1 : decode cX9_readOrder 1 = .ok (.invokevirtual 265, 3) := by decide +kernel
theorem dX9_readOrder_4 : decode cX9_readOrder 4 = .ok (.istore_n 1, 1) := by decide +kernel
theorem dX9_readOrder_5 : decode cX9_readOrder 5 = .ok (.aload_n 0, 1) := by decide +kernel
theorem dX9_readOrder_6 : decode cX9_readOrder 6 = .ok (.iload_n 1, 1) := by decide +kernel
theorem dX9_readOrder_7 : decode cX9_readOrder 7 = .ok (.bipush 110, 2) := by decide +kernel
theorem dX9_readOrder_9 : decode cX9_readOrder 9 = .ok (.if_icmp .eq 15, 3) := by decide +kernel
theorem dX9_readOrder_12 : decode cX9_readOrder 12 = .ok (.iload_n 1, 1) := by decide +kernel
theorem dX9_readOrder_13 : decode cX9_readOrder 13 = .ok (.bipush 109, 2) := by decide +kernel
theorem dX9_readOrder_15 : decode cX9_readOrder 15 = .ok (.if_icmp .eq 9, 3) := by decide +kernel
theorem dX9_readOrder_18 : decode cX9_readOrder 18 = .ok (.iload_n 1, 1) := by decide +kernel
theorem dX9_readOrder_19 : decode cX9_readOrder 19 = .ok (.bipush 120, 2) := by decide +kernel
theorem dX9_readOrder_21 : decode cX9_readOrder 21 = .ok (.if_icmp .ne 7, 3) := by decide +kernel
theorem dX9_readOrder_24 : decode cX9_readOrder 24 = .ok (.iconst 1, 1) := by decide +kernel
theorem dX9_readOrder_25 : decode cX9_readOrder 25 = .ok (.goto 4, 3) := by decide +kernel
theorem dX9_readOrder_28 : decode cX9_readOrder 28 = .ok (.iconst 0, 1) := by decide +kernel
theorem dX9_readOrder_29 : decode cX9_readOrder 29 = .ok (.invokevirtual 268, 3) := by decide +kernel
theorem dX9_readOrder_32 : decode cX9_readOrder 32 = .ok (.aload_n 0, 1) := by decide +kernel
theorem dX9_readOrder_33 : decode cX9_readOrder 33 = .ok (.getfield 262, 3) := by decide +kernel
theorem dX9_readOrder_36 : decode cX9_readOrder 36 = .ok (.iconst (-1), 1) := by decide +kernel
theorem dX9_readOrder_37 : decode cX9_readOrder 37 = .ok (.if_icmp .eq 4, 3) := by decide +kernel
theorem dX9_readOrder_40 : decode cX9_readOrder 40 = .ok (.return_, 1) := by decide +kernel
theorem dX9_readOrder_41 : decode cX9_readOrder 41 = .ok (.aload_n 0, 1) := by decide +kernel
theorem dX9_readOrder_42 : decode cX9_readOrder 42 = .ok (.getfield 79, 3) := by decide +kernel
theorem dX9_readOrder_45 : decode cX9_readOrder 45 = .ok (.aload_n 0, 1) := by decide +kernel
theorem dX9_readOrder_46 : decode cX9_readOrder 46 = .ok (.getfield 278, 3) := by decide +kernel
theorem dX9_readOrder_49 : decode cX9_readOrder 49 = .ok (.iload_n 1, 1) := by decide +kernel
theorem dX9_readOrder_50 : decode cX9_readOrder 50 = .ok (.iastore, 1) := by decide +kernel
theorem dX9_readOrder_51 : decode cX9_readOrder 51 = .ok (.iload_n 1, 1) := by decide +kernel
theorem dX9_readOrder_52 : decode cX9_readOrder 52 = .ok (.bipush 109, 2) := by decide +kernel
theorem dX9_readOrder_54 : decode cX9_readOrder 54 = .ok (.if_icmp .ne 19, 3) := by decide +kernel
theorem dX9_readOrder_57 : decode cX9_readOrder 57 = .ok (.aload_n 0, 1) := by decide +kernel
theorem dX9_readOrder_58 : decode cX9_readOrder 58 = .ok (.getfield 82, 3) := by decide +kernel
theorem dX9_readOrder_61 : decode cX9_readOrder 61 = .ok (.aload_n 0, 1) := by decide +kernel
theorem dX9_readOrder_62 : decode cX9_readOrder 62 = .ok (.getfield 278, 3) := by decide +kernel
theorem dX9_readOrder_65 : decode cX9_readOrder 65 = .ok (.aload_n 0, 1) := by decide +kernel
theorem dX9_readOrder_66 : decode cX9_readOrder 66 = .ok (.invokevirtual 281, 3) := by decide +kernel
theorem dX9_readOrder_69 : decode cX9_readOrder 69 = .ok (.iastore, 1) := by decide +kernel
theorem dX9_readOrder_70 : decode cX9_readOrder 70 = .ok (.goto 60, 3) := by decide +kernel
theorem dX9_readOrder_73 : decode cX9_readOrder 73 = .ok (.aload_n 0, 1) := by decide +kernel
theorem dX9_readOrder_74 : decode cX9_readOrder 74 = .ok (.getfield 82, 3) := by decide +kernel
theorem dX9_readOrder_77 : decode cX9_readOrder 77 = .ok (.aload_n 0, 1) := by decide +kernel
theorem dX9_readOrder_78 : decode cX9_readOrder 78 = .ok (.getfield 278, 3) := by decide +kernel
theorem dX9_readOrder_81 : decode cX9_readOrder 81 = .ok (.iload_n 1, 1) := by decide +kernel
theorem dX9_readOrder_82 : decode cX9_readOrder 82 = .ok (.bipush 110, 2) := by decide +kernel
theorem dX9_readOrder_84 : decode cX9_readOrder 84 = .ok (.if_icmp .ne 12, 3) := by decide +kernel
theorem dX9_readOrder_87 : decode cX9_readOrder 87 = .ok (.aload_n 0, 1) := by decide +kernel
theorem dX9_readOrder_88 : decode cX9_readOrder 88 = .ok (.iconst 1, 1) := by decide +kernel
theorem dX9_readOrder_89 : decode cX9_readOrder 89 = .ok (.iconst 5, 1) := by decide +kernel
theorem dX9_readOrder_90 : decode cX9_readOrder 90 = .ok (.invokevirtual 284, 3) := by decide +kernel
theorem dX9_readOrder_93 : decode cX9_readOrder 93 = .ok (.goto 10, 3) := by decide +kernel
theorem dX9_readOrder_96 : decode cX9_readOrder 96 = .ok (.aload_n 0, 1) := by decide +kernel
theorem dX9_readOrder_97 : decode cX9_readOrder 97 = .ok (.iconst 0, 1) := by decide +kernel
theorem dX9_readOrder_98 : decode cX9_readOrder 98 = .ok (.bipush 9, 2) := by decide +kernel
theorem dX9_readOrder_100 : decode cX9_readOrder 100 = .ok (.invokevirtual 284, 3) := by decide +kernel
theorem dX9_readOrder_103 : decode cX9_readOrder 103 = .ok (.iastore, 1) := by decide +kernel
theorem dX9_readOrder_104 : decode cX9_readOrder 104 = .ok (.aload_n 0, 1) := by decide +kernel
theorem dX9_readOrder_105 : decode cX9_readOrder 105 = .ok (.iload_n 1, 1) := by decide +kernel
theorem dX9_readOrder_106 : decode cX9_readOrder 106 = .ok (.bipush 110, 2) := by decide +kernel
theorem dX9_readOrder_108 : decode cX9_readOrder 108 = .ok (.if_icmp .ne 15, 3) := by decide +kernel
theorem dX9_readOrder_111 : decode cX9_readOrder 111 = .ok (.aload_n 0, 1) := by decide +kernel
theorem dX9_readOrder_112 : decode cX9_readOrder 112 = .ok (.getfield 82, 3) := by decide +kernel
theorem dX9_readOrder_115 : decode cX9_readOrder 115 = .ok (.aload_n 0, 1) := by decide +kernel
theorem dX9_readOrder_116 : decode cX9_readOrder 116 = .ok (.getfield 278, 3) := by decide +kernel
theorem dX9_readOrder_119 : decode cX9_readOrder 119 = .ok (.iaload, 1) := by decide +kernel
theorem dX9_readOrder_120 : decode cX9_readOrder 120 = .ok (.goto 7, 3) := by decide +kernel
theorem dX9_readOrder_123 : decode cX9_readOrder 123 = .ok (.aload_n 0, 1) := by decide +kernel
theorem dX9_readOrder_124 : decode cX9_readOrder 124 = .ok (.getfield 272, 3) := by decide +kernel
theorem dX9_readOrder_127 : decode cX9_readOrder 127 = .ok (.putfield 272, 3) := by decide +kernel
theorem dX9_readOrder_130 : decode cX9_readOrder 130 = .ok (.aload_n 0, 1) := by decide +kernel
theorem dX9_readOrder_131 : decode cX9_readOrder 131 = .ok (.dup, 1) := by decide +kernel
theorem dX9_readOrder_132 : decode cX9_readOrder 132 = .ok (.getfield 278, 3) := by decide +kernel
theorem dX9_readOrder_135 : decode cX9_readOrder 135 = .ok (.iconst 1, 1) := by decide +kernel
theorem dX9_readOrder_136 : decode cX9_readOrder 136 = .ok (.iadd, 1) := by decide +kernel
theorem dX9_readOrder_137 : decode cX9_readOrder 137 = .ok (.putfield 278, 3) := by decide +kernel
theorem dX9_readOrder_140 : decode cX9_readOrder 140 = .ok (.aload_n 0, 1) := by decide +kernel
theorem dX9_readOrder_141 : decode cX9_readOrder 141 = .ok (.aload_n 0, 1) := by decide +kernel
theorem dX9_readOrder_142 : decode cX9_readOrder 142 = .ok (.invokevirtual 265, 3) := by decide +kernel
theorem dX9_readOrder_145 : decode cX9_readOrder 145 = .ok (.bipush 59, 2) := by decide +kernel
theorem dX9_readOrder_147 : decode cX9_readOrder 147 = .ok (.if_icmp .ne 7, 3) := by decide +kernel
theorem dX9_readOrder_150 : decode cX9_readOrder 150 = .ok (.iconst 1, 1) := by decide +kernel
theorem dX9_readOrder_151 : decode cX9_readOrder 151 = .ok (.goto 4, 3) := by decide +kernel
theorem dX9_readOrder_154 : decode cX9_readOrder 154 = .ok (.iconst 0, 1) := by decide +kernel
theorem dX9_readOrder_155 : decode cX9_readOrder 155 = .ok (.invokevirtual 268, 3) := by decide +kernel
theorem dX9_readOrder_158 : decode cX9_readOrder 158 = .ok (.return_, 1) := by decide +kernel
theorem dX9_doOrder_0 : decode cX9_doOrder 0 = .ok (.aload_n 0, 1) := by decide +kernel
theorem dX9_doOrder_1 : decode cX9_doOrder 1 = .ok (.getfield 79, 3) := by decide +kernel
theorem dX9_doOrder_4 : decode cX9_doOrder 4 = .ok (.iload_n 1, 1) := by decide +kernel
theorem dX9_doOrder_5 : decode cX9_doOrder 5 = .ok (.iaload, 1) := by decide +kernel
theorem dX9_doOrder_6 : decode cX9_doOrder 6 = .ok (.bipush 110, 2) := by decide +kernel
theorem dX9_doOrder_8 : decode cX9_doOrder 8 = .ok (.if_icmp .ne 16, 3) := by decide +kernel
theorem dX9_doOrder_11 : decode cX9_doOrder 11 = .ok (.aload_n 0, 1) := by decide +kernel
theorem dX9_doOrder_12 : decode cX9_doOrder 12 = .ok (.aload_n 0, 1) := by decide +kernel
theorem dX9_doOrder_13 : decode cX9_doOrder 13 = .ok (.getfield 82, 3) := by decide +kernel
theorem dX9_doOrder_16 : decode cX9_doOrder 16 = .ok (.iload_n 1, 1) := by decide +kernel
theorem dX9_doOrder_17 : decode cX9_doOrder 17 = .ok (.iaload, 1) := by decide +kernel
theorem dX9_doOrder_18 : decode cX9_doOrder 18 = .ok (.invokevirtual 115, 3) := by decide +kernel
theorem dX9_doOrder_21 : decode cX9_doOrder 21 = .ok (.goto 37, 3) := by decide +kernel
theorem dX9_doOrder_24 : decode cX9_doOrder 24 = .ok (.aload_n 0, 1) := by decide +kernel
theorem dX9_doOrder_25 : decode cX9_doOrder 25 = .ok (.getfield 79, 3) := by decide +kernel
theorem dX9_doOrder_28 : decode cX9_doOrder 28 = .ok (.iload_n 1, 1) := by decide +kernel
theorem dX9_doOrder_29 : decode cX9_doOrder 29 = .ok (.iaload, 1) := by decide +kernel
theorem dX9_doOrder_30 : decode cX9_doOrder 30 = .ok (.bipush 109, 2) := by decide +kernel
theorem dX9_doOrder_32 : decode cX9_doOrder 32 = .ok (.if_icmp .ne 16, 3) := by decide +kernel
theorem dX9_doOrder_35 : decode cX9_doOrder 35 = .ok (.aload_n 0, 1) := by decide +kernel
theorem dX9_doOrder_36 : decode cX9_doOrder 36 = .ok (.aload_n 0, 1) := by decide +kernel
theorem dX9_doOrder_37 : decode cX9_doOrder 37 = .ok (.getfield 82, 3) := by decide +kernel
theorem dX9_doOrder_40 : decode cX9_doOrder 40 = .ok (.iload_n 1, 1) := by decide +kernel
theorem dX9_doOrder_41 : decode cX9_doOrder 41 = .ok (.iaload, 1) := by decide +kernel
theorem dX9_doOrder_42 : decode cX9_doOrder 42 = .ok (.invokevirtual 121, 3) := by decide +kernel
theorem dX9_doOrder_45 : decode cX9_doOrder 45 = .ok (.goto 13, 3) := by decide +kernel
theorem dX9_doOrder_48 : decode cX9_doOrder 48 = .ok (.aload_n 0, 1) := by decide +kernel
theorem dX9_doOrder_49 : decode cX9_doOrder 49 = .ok (.aload_n 0, 1) := by decide +kernel
theorem dX9_doOrder_50 : decode cX9_doOrder 50 = .ok (.getfield 82, 3) := by decide +kernel
theorem dX9_doOrder_53 : decode cX9_doOrder 53 = .ok (.iload_n 1, 1) := by decide +kernel
theorem dX9_doOrder_54 : decode cX9_doOrder 54 = .ok (.iaload, 1) := by decide +kernel
theorem dX9_doOrder_55 : decode cX9_doOrder 55 = .ok (.invokevirtual 124, 3) := by decide +kernel
theorem dX9_doOrder_58 : decode cX9_doOrder 58 = .ok (.ireturn, 1) := by decide +kernel
theorem dX9_reads_0 : decode cX9_reads 0 = .ok (.aload_n 0, 1) := by decide +kernel
theorem dX9_reads_1 : decode cX9_reads 1 = .ok (.iconst 0, 1) := by decide +kernel
theorem dX9_reads_2 : decode cX9_reads 2 = .ok (.putfield 259, 3) := by decide +kernel
theorem dX9_reads_5 : decode cX9_reads 5 = .ok (.aload_n 0, 1) := by decide +kernel
theorem dX9_reads_6 : decode cX9_reads 6 = .ok (.iconst (-1), 1) := by decide +kernel
theorem dX9_reads_7 : decode cX9_reads 7 = .ok (.putfield 262, 3) := by decide +kernel
theorem dX9_reads_10 : decode cX9_reads 10 = .ok (.aload_n 0, 1) := by decide +kernel
theorem dX9_reads_11 : decode cX9_reads 11 = .ok (.iconst 0, 1) := by decide +kernel
theorem dX9_reads_12 : decode cX9_reads 12 = .ok (.putfield 278, 3) := by decide +kernel
theorem dX9_reads_15 : decode cX9_reads 15 = .ok (.aload_n 0, 1) := by decide +kernel
theorem dX9_reads_16 : decode cX9_reads 16 = .ok (.aload_n 0, 1) := by decide +kernel
theorem dX9_reads_17 : decode cX9_reads 17 = .ok (.getfield 7, 3) := by decide +kernel
theorem dX9_reads_20 : decode cX9_reads 20 = .ok (.iconst 0, 1) := by decide +kernel
theorem dX9_reads_21 : decode cX9_reads 21 = .ok (.iaload, 1) := by decide +kernel
theorem dX9_reads_22 : decode cX9_reads 22 = .ok (.putfield 272, 3) := by decide +kernel
theorem dX9_reads_25 : decode cX9_reads 25 = .ok (.aload_n 0, 1) := by decide +kernel
theorem dX9_reads_26 : decode cX9_reads 26 = .ok (.invokevirtual 265, 3) := by decide +kernel
theorem dX9_reads_29 : decode cX9_reads 29 = .ok (.iconst (-1), 1) := by decide +kernel
theorem dX9_reads_30 : decode cX9_reads 30 = .ok (.if_icmp .ne 11, 3) := by decide +kernel
theorem dX9_reads_33 : decode cX9_reads 33 = .ok (.bipush (-10), 2) := by decide +kernel
theorem dX9_reads_35 : decode cX9_reads 35 = .ok (.aload_n 0, 1) := by decide +kernel
theorem dX9_reads_36 : decode cX9_reads 36 = .ok (.getfield 256, 3) := by decide +kernel
theorem dX9_reads_39 : decode cX9_reads 39 = .ok (.isub, 1) := by decide +kernel
theorem dX9_reads_40 : decode cX9_reads 40 = .ok (.ireturn, 1) := by decide +kernel
theorem dX9_reads_41 : decode cX9_reads 41 = .ok (.aload_n 0, 1) := by decide +kernel
theorem dX9_reads_42 : decode cX9_reads 42 = .ok (.getfield 262, 3) := by decide +kernel
theorem dX9_reads_45 : decode cX9_reads 45 = .ok (.iconst (-1), 1) := by decide +kernel
theorem dX9_reads_46 : decode cX9_reads 46 = .ok (.if_icmp .ne 18, 3) := by decide +kernel
theorem dX9_reads_49 : decode cX9_reads 49 = .ok (.aload_n 0, 1) := by decide +kernel
theorem dX9_reads_50 : decode cX9_reads 50 = .ok (.invokevirtual 265, 3) := by decide +kernel
theorem dX9_reads_53 : decode cX9_reads 53 = .ok (.iconst (-1), 1) := by decide +kernel
theorem dX9_reads_54 : decode cX9_reads 54 = .ok (.if_icmp .eq 10, 3) := by decide +kernel
theorem dX9_reads_57 : decode cX9_reads 57 = .ok (.aload_n 0, 1) := by decide +kernel
theorem dX9_reads_58 : decode cX9_reads 58 = .ok (.invokevirtual 287, 3) := by decide +kernel
theorem dX9_reads_61 : decode cX9_reads 61 = .ok (.goto (-20), 3) := by decide +kernel
theorem dX9_reads_64 : decode cX9_reads 64 = .ok (.aload_n 0, 1) := by decide +kernel
theorem dX9_reads_65 : decode cX9_reads 65 = .ok (.getfield 262, 3) := by decide +kernel
theorem dX9_reads_68 : decode cX9_reads 68 = .ok (.iconst (-1), 1) := by decide +kernel
theorem dX9_reads_69 : decode cX9_reads 69 = .ok (.if_icmp .eq 11, 3) := by decide +kernel
theorem dX9_reads_72 : decode cX9_reads 72 = .ok (.bipush (-10), 2) := by decide +kernel
theorem dX9_reads_74 : decode cX9_reads 74 = .ok (.aload_n 0, 1) := by decide +kernel
theorem dX9_reads_75 : decode cX9_reads 75 = .ok (.getfield 262, 3) := by decide +kernel
theorem dX9_reads_78 : decode cX9_reads 78 = .ok (.isub, 1) := by decide +kernel
theorem dX9_reads_79 : decode cX9_reads 79 = .ok (.ireturn, 1) := by decide +kernel
theorem dX9_reads_80 : decode cX9_reads 80 = .ok (.aload_n 0, 1) := by decide +kernel
theorem dX9_reads_81 : decode cX9_reads 81 = .ok (.invokevirtual 112, 3) := by decide +kernel
theorem dX9_reads_84 : decode cX9_reads 84 = .ok (.iconst 0, 1) := by decide +kernel
theorem dX9_reads_85 : decode cX9_reads 85 = .ok (.istore_n 1, 1) := by decide +kernel
theorem dX9_reads_86 : decode cX9_reads 86 = .ok (.iload_n 1, 1) := by decide +kernel
theorem dX9_reads_87 : decode cX9_reads 87 = .ok (.aload_n 0, 1) := by decide +kernel
theorem dX9_reads_88 : decode cX9_reads 88 = .ok (.getfield 278, 3) := by decide +kernel
theorem dX9_reads_91 : decode cX9_reads 91 = .ok (.if_icmp .ge 53, 3) := by decide +kernel
theorem dX9_reads_94 : decode cX9_reads 94 = .ok (.aload_n 0, 1) := by decide +kernel
theorem dX9_reads_95 : decode cX9_reads 95 = .ok (.iload_n 1, 1) := by decide +kernel
theorem dX9_reads_96 : decode cX9_reads 96 = .ok (.invokevirtual 290, 3) := by decide +kernel
theorem dX9_reads_99 : decode cX9_reads 99 = .ok (.ifCond .ge 39, 3) := by decide +kernel
theorem dX9_reads_102 : decode cX9_reads 102 = .ok (.iconst 0, 1) := by decide +kernel
theorem dX9_reads_103 : decode cX9_reads 103 = .ok (.istore_n 2, 1) := by decide +kernel
theorem dX9_reads_104 : decode cX9_reads 104 = .ok (.iload_n 2, 1) := by decide +kernel
theorem dX9_reads_105 : decode cX9_reads 105 = .ok (.iconst 5, 1) := by decide +kernel
theorem dX9_reads_106 : decode cX9_reads 106 = .ok (.if_icmp .ge 21, 3) := by decide +kernel
theorem dX9_reads_109 : decode cX9_reads 109 = .ok (.aload_n 0, 1) := by decide +kernel
theorem dX9_reads_110 : decode cX9_reads 110 = .ok (.getfield 7, 3) := by decide +kernel
theorem dX9_reads_113 : decode cX9_reads 113 = .ok (.iload_n 2, 1) := by decide +kernel
theorem dX9_reads_114 : decode cX9_reads 114 = .ok (.aload_n 0, 1) := by decide +kernel
theorem dX9_reads_115 : decode cX9_reads 115 = .ok (.getfield 13, 3) := by decide +kernel
theorem dX9_reads_118 : decode cX9_reads 118 = .ok (.iload_n 2, 1) := by decide +kernel
theorem dX9_reads_119 : decode cX9_reads 119 = .ok (.iaload, 1) := by decide +kernel
theorem dX9_reads_120 : decode cX9_reads 120 = .ok (.iastore, 1) := by decide +kernel
theorem dX9_reads_121 : decode cX9_reads 121 = .ok (.iinc 2 1, 3) := by decide +kernel
theorem dX9_reads_124 : decode cX9_reads 124 = .ok (.goto (-20), 3) := by decide +kernel
theorem dX9_reads_127 : decode cX9_reads 127 = .ok (.aload_n 0, 1) := by decide +kernel
theorem dX9_reads_128 : decode cX9_reads 128 = .ok (.iconst 0, 1) := by decide +kernel
theorem dX9_reads_129 : decode cX9_reads 129 = .ok (.putfield 96, 3) := by decide +kernel
theorem dX9_reads_132 : decode cX9_reads 132 = .ok (.sipush (-1000), 3) := by decide +kernel
theorem dX9_reads_135 : decode cX9_reads 135 = .ok (.iload_n 1, 1) := by decide +kernel
theorem dX9_reads_136 : decode cX9_reads 136 = .ok (.isub, 1) := by decide +kernel
theorem dX9_reads_137 : decode cX9_reads 137 = .ok (.ireturn, 1) := by decide +kernel
theorem dX9_reads_138 : decode cX9_reads 138 = .ok (.iinc 1 1, 3) := by decide +kernel
theorem dX9_reads_141 : decode cX9_reads 141 = .ok (.goto (-55), 3) := by decide +kernel
theorem dX9_reads_144 : decode cX9_reads 144 = .ok (.aload_n 0, 1) := by decide +kernel
theorem dX9_reads_145 : decode cX9_reads 145 = .ok (.invokevirtual 93, 3) := by decide +kernel
theorem dX9_reads_148 : decode cX9_reads 148 = .ok (.aload_n 0, 1) := by decide +kernel
theorem dX9_reads_149 : decode cX9_reads 149 = .ok (.getfield 278, 3) := by decide +kernel
theorem dX9_reads_152 : decode cX9_reads 152 = .ok (.ireturn, 1) := by decide +kernel
theorem dX9_toldOf_0 : decode cX9_toldOf 0 = .ok (.iload_n 1, 1) := by decide +kernel
theorem dX9_toldOf_1 : decode cX9_toldOf 1 = .ok (.iconst 3, 1) := by decide +kernel
theorem dX9_toldOf_2 : decode cX9_toldOf 2 = .ok (.if_icmp .ge 12, 3) := by decide +kernel
theorem dX9_toldOf_5 : decode cX9_toldOf 5 = .ok (.aload_n 0, 1) := by decide +kernel
theorem dX9_toldOf_6 : decode cX9_toldOf 6 = .ok (.getfield 19, 3) := by decide +kernel
theorem dX9_toldOf_9 : decode cX9_toldOf 9 = .ok (.iload_n 1, 1) := by decide +kernel
theorem dX9_toldOf_10 : decode cX9_toldOf 10 = .ok (.iaload, 1) := by decide +kernel
theorem dX9_toldOf_11 : decode cX9_toldOf 11 = .ok (.goto 36, 3) := by decide +kernel
theorem dX9_toldOf_14 : decode cX9_toldOf 14 = .ok (.iload_n 1, 1) := by decide +kernel
theorem dX9_toldOf_15 : decode cX9_toldOf 15 = .ok (.iconst 3, 1) := by decide +kernel
theorem dX9_toldOf_16 : decode cX9_toldOf 16 = .ok (.if_icmp .ne 10, 3) := by decide +kernel
theorem dX9_toldOf_19 : decode cX9_toldOf 19 = .ok (.aload_n 0, 1) := by decide +kernel
theorem dX9_toldOf_20 : decode cX9_toldOf 20 = .ok (.getfield 256, 3) := by decide +kernel
theorem dX9_toldOf_23 : decode cX9_toldOf 23 = .ok (.goto 24, 3) := by decide +kernel
theorem dX9_toldOf_26 : decode cX9_toldOf 26 = .ok (.iload_n 1, 1) := by decide +kernel
theorem dX9_toldOf_27 : decode cX9_toldOf 27 = .ok (.bipush 6, 2) := by decide +kernel
theorem dX9_toldOf_29 : decode cX9_toldOf 29 = .ok (.if_icmp .ge 14, 3) := by decide +kernel
theorem dX9_toldOf_32 : decode cX9_toldOf 32 = .ok (.aload_n 0, 1) := by decide +kernel
theorem dX9_toldOf_33 : decode cX9_toldOf 33 = .ok (.getfield 7, 3) := by decide +kernel
theorem dX9_toldOf_36 : decode cX9_toldOf 36 = .ok (.iload_n 1, 1) := by decide +kernel
theorem dX9_toldOf_37 : decode cX9_toldOf 37 = .ok (.iconst 4, 1) := by decide +kernel
theorem dX9_toldOf_38 : decode cX9_toldOf 38 = .ok (.isub, 1) := by decide +kernel
theorem dX9_toldOf_39 : decode cX9_toldOf 39 = .ok (.iaload, 1) := by decide +kernel
theorem dX9_toldOf_40 : decode cX9_toldOf 40 = .ok (.goto 7, 3) := by decide +kernel
theorem dX9_toldOf_43 : decode cX9_toldOf 43 = .ok (.aload_n 0, 1) := by decide +kernel
theorem dX9_toldOf_44 : decode cX9_toldOf 44 = .ok (.getfield 85, 3) := by decide +kernel
theorem dX9_toldOf_47 : decode cX9_toldOf 47 = .ok (.ireturn, 1) := by decide +kernel
theorem dX9_told_0 : decode cX9_told 0 = .ok (.iload_n 1, 1) := by decide +kernel
theorem dX9_told_1 : decode cX9_told 1 = .ok (.iconst 0, 1) := by decide +kernel
theorem dX9_told_2 : decode cX9_told 2 = .ok (.bipush 6, 2) := by decide +kernel
theorem dX9_told_4 : decode cX9_told 4 = .ok (.invokestatic 100, 3) := by decide +kernel
theorem dX9_told_7 : decode cX9_told 7 = .ok (.ifCond .eq 11, 3) := by decide +kernel
theorem dX9_told_10 : decode cX9_told 10 = .ok (.aload_n 0, 1) := by decide +kernel
theorem dX9_told_11 : decode cX9_told 11 = .ok (.iload_n 1, 1) := by decide +kernel
theorem dX9_told_12 : decode cX9_told 12 = .ok (.invokevirtual 293, 3) := by decide +kernel
theorem dX9_told_15 : decode cX9_told 15 = .ok (.goto 9, 3) := by decide +kernel
theorem dX9_told_18 : decode cX9_told 18 = .ok (.aload_n 0, 1) := by decide +kernel
theorem dX9_told_19 : decode cX9_told 19 = .ok (.bipush (-2), 2) := by decide +kernel
theorem dX9_told_21 : decode cX9_told 21 = .ok (.invokevirtual 89, 3) := by decide +kernel
theorem dX9_told_24 : decode cX9_told 24 = .ok (.ireturn, 1) := by decide +kernel
theorem dX9_mix_0 : decode cX9_mix 0 = .ok (.aload_n 0, 1) := by decide +kernel
theorem dX9_mix_1 : decode cX9_mix 1 = .ok (.ldc2_w 296, 3) := by decide +kernel
theorem dX9_mix_4 : decode cX9_mix 4 = .ok (.aload_n 0, 1) := by decide +kernel
theorem dX9_mix_5 : decode cX9_mix 5 = .ok (.getfield 298, 3) := by decide +kernel
theorem dX9_mix_8 : decode cX9_mix 8 = .ok (.lmul, 1) := by decide +kernel
theorem dX9_mix_9 : decode cX9_mix 9 = .ok (.iload_n 1, 1) := by decide +kernel
theorem dX9_mix_10 : decode cX9_mix 10 = .ok (.i2l, 1) := by decide +kernel
theorem dX9_mix_11 : decode cX9_mix 11 = .ok (.ladd, 1) := by decide +kernel
theorem dX9_mix_12 : decode cX9_mix 12 = .ok (.putfield 298, 3) := by decide +kernel
theorem dX9_mix_15 : decode cX9_mix 15 = .ok (.return_, 1) := by decide +kernel
theorem dX9_digest_0 : decode cX9_digest 0 = .ok (.aload_n 0, 1) := by decide +kernel
theorem dX9_digest_1 : decode cX9_digest 1 = .ok (.ldc2_w 302, 3) := by decide +kernel
theorem dX9_digest_4 : decode cX9_digest 4 = .ok (.putfield 298, 3) := by decide +kernel
theorem dX9_digest_7 : decode cX9_digest 7 = .ok (.iconst 0, 1) := by decide +kernel
theorem dX9_digest_8 : decode cX9_digest 8 = .ok (.istore_n 1, 1) := by decide +kernel
theorem dX9_digest_9 : decode cX9_digest 9 = .ok (.iload_n 1, 1) := by decide +kernel
theorem dX9_digest_10 : decode cX9_digest 10 = .ok (.bipush 7, 2) := by decide +kernel
theorem dX9_digest_12 : decode cX9_digest 12 = .ok (.if_icmp .ge 18, 3) := by decide +kernel
theorem dX9_digest_15 : decode cX9_digest 15 = .ok (.aload_n 0, 1) := by decide +kernel
theorem dX9_digest_16 : decode cX9_digest 16 = .ok (.aload_n 0, 1) := by decide +kernel
theorem dX9_digest_17 : decode cX9_digest 17 = .ok (.iload_n 1, 1) := by decide +kernel
theorem dX9_digest_18 : decode cX9_digest 18 = .ok (.invokevirtual 293, 3) := by decide +kernel
theorem dX9_digest_21 : decode cX9_digest 21 = .ok (.invokevirtual 304, 3) := by decide +kernel
theorem dX9_digest_24 : decode cX9_digest 24 = .ok (.iinc 1 1, 3) := by decide +kernel
theorem dX9_digest_27 : decode cX9_digest 27 = .ok (.goto (-18), 3) := by decide +kernel
theorem dX9_digest_30 : decode cX9_digest 30 = .ok (.iconst 0, 1) := by decide +kernel
theorem dX9_digest_31 : decode cX9_digest 31 = .ok (.istore_n 1, 1) := by decide +kernel
theorem dX9_digest_32 : decode cX9_digest 32 = .ok (.iload_n 1, 1) := by decide +kernel
theorem dX9_digest_33 : decode cX9_digest 33 = .ok (.bipush 8, 2) := by decide +kernel
theorem dX9_digest_35 : decode cX9_digest 35 = .ok (.if_icmp .ge 18, 3) := by decide +kernel
theorem dX9_digest_38 : decode cX9_digest 38 = .ok (.aload_n 0, 1) := by decide +kernel
theorem dX9_digest_39 : decode cX9_digest 39 = .ok (.aload_n 0, 1) := by decide +kernel
theorem dX9_digest_40 : decode cX9_digest 40 = .ok (.iload_n 1, 1) := by decide +kernel
theorem dX9_digest_41 : decode cX9_digest 41 = .ok (.invokevirtual 231, 3) := by decide +kernel
theorem dX9_digest_44 : decode cX9_digest 44 = .ok (.invokevirtual 304, 3) := by decide +kernel
theorem dX9_digest_47 : decode cX9_digest 47 = .ok (.iinc 1 1, 3) := by decide +kernel
theorem dX9_digest_50 : decode cX9_digest 50 = .ok (.goto (-18), 3) := by decide +kernel
theorem dX9_digest_53 : decode cX9_digest 53 = .ok (.iconst 0, 1) := by decide +kernel
theorem dX9_digest_54 : decode cX9_digest 54 = .ok (.istore_n 1, 1) := by decide +kernel
theorem dX9_digest_55 : decode cX9_digest 55 = .ok (.iload_n 1, 1) := by decide +kernel
theorem dX9_digest_56 : decode cX9_digest 56 = .ok (.bipush 6, 2) := by decide +kernel
theorem dX9_digest_58 : decode cX9_digest 58 = .ok (.aload_n 0, 1) := by decide +kernel
theorem dX9_digest_59 : decode cX9_digest 59 = .ok (.getfield 143, 3) := by decide +kernel
theorem dX9_digest_62 : decode cX9_digest 62 = .ok (.imul, 1) := by decide +kernel
theorem dX9_digest_63 : decode cX9_digest 63 = .ok (.if_icmp .ge 25, 3) := by decide +kernel
theorem dX9_digest_66 : decode cX9_digest 66 = .ok (.aload_n 0, 1) := by decide +kernel
theorem dX9_digest_67 : decode cX9_digest 67 = .ok (.aload_n 0, 1) := by decide +kernel
theorem dX9_digest_68 : decode cX9_digest 68 = .ok (.iload_n 1, 1) := by decide +kernel
theorem dX9_digest_69 : decode cX9_digest 69 = .ok (.bipush 6, 2) := by decide +kernel
theorem dX9_digest_71 : decode cX9_digest 71 = .ok (.idiv, 1) := by decide +kernel
theorem dX9_digest_72 : decode cX9_digest 72 = .ok (.iload_n 1, 1) := by decide +kernel
theorem dX9_digest_73 : decode cX9_digest 73 = .ok (.bipush 6, 2) := by decide +kernel
theorem dX9_digest_75 : decode cX9_digest 75 = .ok (.irem, 1) := by decide +kernel
theorem dX9_digest_76 : decode cX9_digest 76 = .ok (.invokevirtual 243, 3) := by decide +kernel
theorem dX9_digest_79 : decode cX9_digest 79 = .ok (.invokevirtual 304, 3) := by decide +kernel
theorem dX9_digest_82 : decode cX9_digest 82 = .ok (.iinc 1 1, 3) := by decide +kernel
theorem dX9_digest_85 : decode cX9_digest 85 = .ok (.goto (-30), 3) := by decide +kernel
theorem dX9_digest_88 : decode cX9_digest 88 = .ok (.iconst 0, 1) := by decide +kernel
theorem dX9_digest_89 : decode cX9_digest 89 = .ok (.istore_n 1, 1) := by decide +kernel
theorem dX9_digest_90 : decode cX9_digest 90 = .ok (.iload_n 1, 1) := by decide +kernel
theorem dX9_digest_91 : decode cX9_digest 91 = .ok (.aload_n 0, 1) := by decide +kernel
theorem dX9_digest_92 : decode cX9_digest 92 = .ok (.getfield 143, 3) := by decide +kernel
theorem dX9_digest_95 : decode cX9_digest 95 = .ok (.if_icmp .ge 59, 3) := by decide +kernel
theorem dX9_digest_98 : decode cX9_digest 98 = .ok (.aload_n 0, 1) := by decide +kernel
theorem dX9_digest_99 : decode cX9_digest 99 = .ok (.aload_n 0, 1) := by decide +kernel
theorem dX9_digest_100 : decode cX9_digest 100 = .ok (.getfield 67, 3) := by decide +kernel
theorem dX9_digest_103 : decode cX9_digest 103 = .ok (.iload_n 1, 1) := by decide +kernel
theorem dX9_digest_104 : decode cX9_digest 104 = .ok (.iaload, 1) := by decide +kernel
theorem dX9_digest_105 : decode cX9_digest 105 = .ok (.invokevirtual 304, 3) := by decide +kernel
theorem dX9_digest_108 : decode cX9_digest 108 = .ok (.iconst 0, 1) := by decide +kernel
theorem dX9_digest_109 : decode cX9_digest 109 = .ok (.istore_n 2, 1) := by decide +kernel
theorem dX9_digest_110 : decode cX9_digest 110 = .ok (.iload_n 2, 1) := by decide +kernel
theorem dX9_digest_111 : decode cX9_digest 111 = .ok (.aload_n 0, 1) := by decide +kernel
theorem dX9_digest_112 : decode cX9_digest 112 = .ok (.getfield 143, 3) := by decide +kernel
theorem dX9_digest_115 : decode cX9_digest 115 = .ok (.if_icmp .ge 24, 3) := by decide +kernel
theorem dX9_digest_118 : decode cX9_digest 118 = .ok (.aload_n 0, 1) := by decide +kernel
theorem dX9_digest_119 : decode cX9_digest 119 = .ok (.aload_n 0, 1) := by decide +kernel
theorem dX9_digest_120 : decode cX9_digest 120 = .ok (.getfield 70, 3) := by decide +kernel
theorem dX9_digest_123 : decode cX9_digest 123 = .ok (.bipush 8, 2) := by decide +kernel
theorem dX9_digest_125 : decode cX9_digest 125 = .ok (.iload_n 1, 1) := by decide +kernel
theorem dX9_digest_126 : decode cX9_digest 126 = .ok (.imul, 1) := by decide +kernel
theorem dX9_digest_127 : decode cX9_digest 127 = .ok (.iload_n 2, 1) := by decide +kernel
theorem dX9_digest_128 : decode cX9_digest 128 = .ok (.iadd, 1) := by decide +kernel
theorem dX9_digest_129 : decode cX9_digest 129 = .ok (.iaload, 1) := by decide +kernel
theorem dX9_digest_130 : decode cX9_digest 130 = .ok (.invokevirtual 304, 3) := by decide +kernel
theorem dX9_digest_133 : decode cX9_digest 133 = .ok (.iinc 2 1, 3) := by decide +kernel
theorem dX9_digest_136 : decode cX9_digest 136 = .ok (.goto (-26), 3) := by decide +kernel
theorem dX9_digest_139 : decode cX9_digest 139 = .ok (.aload_n 0, 1) := by decide +kernel
theorem dX9_digest_140 : decode cX9_digest 140 = .ok (.aload_n 0, 1) := by decide +kernel
theorem dX9_digest_141 : decode cX9_digest 141 = .ok (.iload_n 1, 1) := by decide +kernel
theorem dX9_digest_142 : decode cX9_digest 142 = .ok (.invokevirtual 246, 3) := by decide +kernel
theorem dX9_digest_145 : decode cX9_digest 145 = .ok (.invokevirtual 304, 3) := by decide +kernel
theorem dX9_digest_148 : decode cX9_digest 148 = .ok (.iinc 1 1, 3) := by decide +kernel
theorem dX9_digest_151 : decode cX9_digest 151 = .ok (.goto (-61), 3) := by decide +kernel
theorem dX9_digest_154 : decode cX9_digest 154 = .ok (.aload_n 0, 1) := by decide +kernel
theorem dX9_digest_155 : decode cX9_digest 155 = .ok (.getfield 298, 3) := by decide +kernel
theorem dX9_digest_158 : decode cX9_digest 158 = .ok (.lreturn, 1) := by decide +kernel
