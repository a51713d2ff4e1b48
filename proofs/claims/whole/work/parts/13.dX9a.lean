theorem dX9_init_0 : decode cX9_init 0 = .ok (.aload_n 0, 1) := by decide +kernel
theorem dX9_init_1 : decode cX9_init 1 = .ok (.invokespecial 1, 3) := by decide +kernel
theorem dX9_init_4 : decode cX9_init 4 = .ok (.aload_n 0, 1) := by decide +kernel
theorem dX9_init_5 : decode cX9_init 5 = .ok (.iconst 5, 1) := by decide +kernel
theorem dX9_init_6 : decode cX9_init 6 = .ok (.newarray .int, 2) := by decide +kernel
theorem dX9_init_8 : decode cX9_init 8 = .ok (.putfield 7, 3) := by decide +kernel
theorem dX9_init_11 : decode cX9_init 11 = .ok (.aload_n 0, 1) := by decide +kernel
theorem dX9_init_12 : decode cX9_init 12 = .ok (.iconst 5, 1) := by decide +kernel
theorem dX9_init_13 : decode cX9_init 13 = .ok (.newarray .int, 2) := by decide +kernel
theorem dX9_init_15 : decode cX9_init 15 = .ok (.putfield 13, 3) := by decide +kernel
theorem dX9_init_18 : decode cX9_init 18 = .ok (.aload_n 0, 1) := by decide +kernel
theorem dX9_init_19 : decode cX9_init 19 = .ok (.bipush 25, 2) := by decide +kernel
theorem dX9_init_21 : decode cX9_init 21 = .ok (.newarray .int, 2) := by decide +kernel
theorem dX9_init_23 : decode cX9_init 23 = .ok (.putfield 16, 3) := by decide +kernel
theorem dX9_init_26 : decode cX9_init 26 = .ok (.aload_n 0, 1) := by decide +kernel
theorem dX9_init_27 : decode cX9_init 27 = .ok (.iconst 3, 1) := by decide +kernel
theorem dX9_init_28 : decode cX9_init 28 = .ok (.newarray .int, 2) := by decide +kernel
theorem dX9_init_30 : decode cX9_init 30 = .ok (.putfield 19, 3) := by decide +kernel
theorem dX9_init_33 : decode cX9_init 33 = .ok (.aload_n 0, 1) := by decide +kernel
theorem dX9_init_34 : decode cX9_init 34 = .ok (.bipush 120, 2) := by decide +kernel
theorem dX9_init_36 : decode cX9_init 36 = .ok (.newarray .int, 2) := by decide +kernel
theorem dX9_init_38 : decode cX9_init 38 = .ok (.putfield 22, 3) := by decide +kernel
theorem dX9_init_41 : decode cX9_init 41 = .ok (.aload_n 0, 1) := by decide +kernel
theorem dX9_init_42 : decode cX9_init 42 = .ok (.sipush 14400, 3) := by decide +kernel
theorem dX9_init_45 : decode cX9_init 45 = .ok (.newarray .int, 2) := by decide +kernel
theorem dX9_init_47 : decode cX9_init 47 = .ok (.putfield 25, 3) := by decide +kernel
theorem dX9_init_50 : decode cX9_init 50 = .ok (.aload_n 0, 1) := by decide +kernel
theorem dX9_init_51 : decode cX9_init 51 = .ok (.bipush 120, 2) := by decide +kernel
theorem dX9_init_53 : decode cX9_init 53 = .ok (.newarray .int, 2) := by decide +kernel
theorem dX9_init_55 : decode cX9_init 55 = .ok (.putfield 28, 3) := by decide +kernel
theorem dX9_init_58 : decode cX9_init 58 = .ok (.aload_n 0, 1) := by decide +kernel
theorem dX9_init_59 : decode cX9_init 59 = .ok (.bipush 120, 2) := by decide +kernel
theorem dX9_init_61 : decode cX9_init 61 = .ok (.newarray .int, 2) := by decide +kernel
theorem dX9_init_63 : decode cX9_init 63 = .ok (.putfield 31, 3) := by decide +kernel
theorem dX9_init_66 : decode cX9_init 66 = .ok (.aload_n 0, 1) := by decide +kernel
theorem dX9_init_67 : decode cX9_init 67 = .ok (.bipush 120, 2) := by decide +kernel
theorem dX9_init_69 : decode cX9_init 69 = .ok (.newarray .int, 2) := by decide +kernel
theorem dX9_init_71 : decode cX9_init 71 = .ok (.putfield 34, 3) := by decide +kernel
theorem dX9_init_74 : decode cX9_init 74 = .ok (.aload_n 0, 1) := by decide +kernel
theorem dX9_init_75 : decode cX9_init 75 = .ok (.bipush 8, 2) := by decide +kernel
theorem dX9_init_77 : decode cX9_init 77 = .ok (.newarray .int, 2) := by decide +kernel
theorem dX9_init_79 : decode cX9_init 79 = .ok (.putfield 37, 3) := by decide +kernel
theorem dX9_init_82 : decode cX9_init 82 = .ok (.aload_n 0, 1) := by decide +kernel
theorem dX9_init_83 : decode cX9_init 83 = .ok (.bipush 8, 2) := by decide +kernel
theorem dX9_init_85 : decode cX9_init 85 = .ok (.newarray .int, 2) := by decide +kernel
theorem dX9_init_87 : decode cX9_init 87 = .ok (.putfield 40, 3) := by decide +kernel
theorem dX9_init_90 : decode cX9_init 90 = .ok (.aload_n 0, 1) := by decide +kernel
theorem dX9_init_91 : decode cX9_init 91 = .ok (.sipush 512, 3) := by decide +kernel
theorem dX9_init_94 : decode cX9_init 94 = .ok (.newarray .int, 2) := by decide +kernel
theorem dX9_init_96 : decode cX9_init 96 = .ok (.putfield 43, 3) := by decide +kernel
theorem dX9_init_99 : decode cX9_init 99 = .ok (.aload_n 0, 1) := by decide +kernel
theorem dX9_init_100 : decode cX9_init 100 = .ok (.bipush 8, 2) := by decide +kernel
theorem dX9_init_102 : decode cX9_init 102 = .ok (.newarray .int, 2) := by decide +kernel
theorem dX9_init_104 : decode cX9_init 104 = .ok (.putfield 46, 3) := by decide +kernel
theorem dX9_init_107 : decode cX9_init 107 = .ok (.aload_n 0, 1) := by decide +kernel
theorem dX9_init_108 : decode cX9_init 108 = .ok (.sipush 512, 3) := by decide +kernel
theorem dX9_init_111 : decode cX9_init 111 = .ok (.newarray .int, 2) := by decide +kernel
theorem dX9_init_113 : decode cX9_init 113 = .ok (.putfield 49, 3) := by decide +kernel
theorem dX9_init_116 : decode cX9_init 116 = .ok (.aload_n 0, 1) := by decide +kernel
theorem dX9_init_117 : decode cX9_init 117 = .ok (.bipush 8, 2) := by decide +kernel
theorem dX9_init_119 : decode cX9_init 119 = .ok (.newarray .int, 2) := by decide +kernel
theorem dX9_init_121 : decode cX9_init 121 = .ok (.putfield 52, 3) := by decide +kernel
theorem dX9_init_124 : decode cX9_init 124 = .ok (.aload_n 0, 1) := by decide +kernel
theorem dX9_init_125 : decode cX9_init 125 = .ok (.sipush 512, 3) := by decide +kernel
theorem dX9_init_128 : decode cX9_init 128 = .ok (.newarray .int, 2) := by decide +kernel
theorem dX9_init_130 : decode cX9_init 130 = .ok (.putfield 55, 3) := by decide +kernel
theorem dX9_init_133 : decode cX9_init 133 = .ok (.aload_n 0, 1) := by decide +kernel
theorem dX9_init_134 : decode cX9_init 134 = .ok (.bipush 64, 2) := by decide +kernel
theorem dX9_init_136 : decode cX9_init 136 = .ok (.newarray .int, 2) := by decide +kernel
theorem dX9_init_138 : decode cX9_init 138 = .ok (.putfield 58, 3) := by decide +kernel
theorem dX9_init_141 : decode cX9_init 141 = .ok (.aload_n 0, 1) := by decide +kernel
theorem dX9_init_142 : decode cX9_init 142 = .ok (.bipush 8, 2) := by decide +kernel
theorem dX9_init_144 : decode cX9_init 144 = .ok (.newarray .int, 2) := by decide +kernel
theorem dX9_init_146 : decode cX9_init 146 = .ok (.putfield 61, 3) := by decide +kernel
theorem dX9_init_149 : decode cX9_init 149 = .ok (.aload_n 0, 1) := by decide +kernel
theorem dX9_init_150 : decode cX9_init 150 = .ok (.bipush 64, 2) := by decide +kernel
theorem dX9_init_152 : decode cX9_init 152 = .ok (.newarray .int, 2) := by decide +kernel
theorem dX9_init_154 : decode cX9_init 154 = .ok (.putfield 64, 3) := by decide +kernel
theorem dX9_init_157 : decode cX9_init 157 = .ok (.aload_n 0, 1) := by decide +kernel
theorem dX9_init_158 : decode cX9_init 158 = .ok (.bipush 8, 2) := by decide +kernel
theorem dX9_init_160 : decode cX9_init 160 = .ok (.newarray .int, 2) := by decide +kernel
theorem dX9_init_162 : decode cX9_init 162 = .ok (.putfield 67, 3) := by decide +kernel
theorem dX9_init_165 : decode cX9_init 165 = .ok (.aload_n 0, 1) := by decide +kernel
theorem dX9_init_166 : decode cX9_init 166 = .ok (.bipush 64, 2) := by decide +kernel
theorem dX9_init_168 : decode cX9_init 168 = .ok (.newarray .int, 2) := by decide +kernel
theorem dX9_init_170 : decode cX9_init 170 = .ok (.putfield 70, 3) := by decide +kernel
theorem dX9_init_173 : decode cX9_init 173 = .ok (.aload_n 0, 1) := by decide +kernel
theorem dX9_init_174 : decode cX9_init 174 = .ok (.bipush 8, 2) := by decide +kernel
theorem dX9_init_176 : decode cX9_init 176 = .ok (.newarray .int, 2) := by decide +kernel
theorem dX9_init_178 : decode cX9_init 178 = .ok (.putfield 73, 3) := by decide +kernel
theorem dX9_init_181 : decode cX9_init 181 = .ok (.aload_n 0, 1) := by decide +kernel
theorem dX9_init_182 : decode cX9_init 182 = .ok (.bipush 80, 2) := by decide +kernel
theorem dX9_init_184 : decode cX9_init 184 = .ok (.newarray .int, 2) := by decide +kernel
theorem dX9_init_186 : decode cX9_init 186 = .ok (.putfield 76, 3) := by decide +kernel
theorem dX9_init_189 : decode cX9_init 189 = .ok (.aload_n 0, 1) := by decide +kernel
theorem dX9_init_190 : decode cX9_init 190 = .ok (.bipush 40, 2) := by decide +kernel
theorem dX9_init_192 : decode cX9_init 192 = .ok (.newarray .int, 2) := by decide +kernel
theorem dX9_init_194 : decode cX9_init 194 = .ok (.putfield 79, 3) := by decide +kernel
theorem dX9_init_197 : decode cX9_init 197 = .ok (.aload_n 0, 1) := by decide +kernel
theorem dX9_init_198 : decode cX9_init 198 = .ok (.bipush 40, 2) := by decide +kernel
theorem dX9_init_200 : decode cX9_init 200 = .ok (.newarray .int, 2) := by decide +kernel
theorem dX9_init_202 : decode cX9_init 202 = .ok (.putfield 82, 3) := by decide +kernel
theorem dX9_init_205 : decode cX9_init 205 = .ok (.aload_n 0, 1) := by decide +kernel
theorem dX9_init_206 : decode cX9_init 206 = .ok (.getfield 7, 3) := by decide +kernel
theorem dX9_init_209 : decode cX9_init 209 = .ok (.iconst 0, 1) := by decide +kernel
theorem dX9_init_210 : decode cX9_init 210 = .ok (.iconst 4, 1) := by decide +kernel
theorem dX9_init_211 : decode cX9_init 211 = .ok (.iastore, 1) := by decide +kernel
theorem dX9_init_212 : decode cX9_init 212 = .ok (.return_, 1) := by decide +kernel
theorem dX9_in_0 : decode cX9_in 0 = .ok (.iload_n 0, 1) := by decide +kernel
theorem dX9_in_1 : decode cX9_in 1 = .ok (.iload_n 1, 1) := by decide +kernel
theorem dX9_in_2 : decode cX9_in 2 = .ok (.if_icmp .lt 12, 3) := by decide +kernel
theorem dX9_in_5 : decode cX9_in 5 = .ok (.iload_n 0, 1) := by decide +kernel
theorem dX9_in_6 : decode cX9_in 6 = .ok (.iload_n 2, 1) := by decide +kernel
theorem dX9_in_7 : decode cX9_in 7 = .ok (.if_icmp .gt 7, 3) := by decide +kernel
theorem dX9_in_10 : decode cX9_in 10 = .ok (.iconst 1, 1) := by decide +kernel
theorem dX9_in_11 : decode cX9_in 11 = .ok (.goto 4, 3) := by decide +kernel
theorem dX9_in_14 : decode cX9_in 14 = .ok (.iconst 0, 1) := by decide +kernel
theorem dX9_in_15 : decode cX9_in 15 = .ok (.ireturn, 1) := by decide +kernel
theorem dX9_has_0 : decode cX9_has 0 = .ok (.iload_n 0, 1) := by decide +kernel
theorem dX9_has_1 : decode cX9_has 1 = .ok (.iload_n 1, 1) := by decide +kernel
theorem dX9_has_2 : decode cX9_has 2 = .ok (.ishr, 1) := by decide +kernel
theorem dX9_has_3 : decode cX9_has 3 = .ok (.iconst 1, 1) := by decide +kernel
theorem dX9_has_4 : decode cX9_has 4 = .ok (.iand, 1) := by decide +kernel
theorem dX9_has_5 : decode cX9_has 5 = .ok (.iconst 1, 1) := by decide +kernel
theorem dX9_has_6 : decode cX9_has 6 = .ok (.if_icmp .ne 7, 3) := by decide +kernel
theorem dX9_has_9 : decode cX9_has 9 = .ok (.iconst 1, 1) := by decide +kernel
theorem dX9_has_10 : decode cX9_has 10 = .ok (.goto 4, 3) := by decide +kernel
theorem dX9_has_13 : decode cX9_has 13 = .ok (.iconst 0, 1) := by decide +kernel
theorem dX9_has_14 : decode cX9_has 14 = .ok (.ireturn, 1) := by decide +kernel
theorem dX9_refuses_0 : decode cX9_refuses 0 = .ok (.aload_n 0, 1) := by decide +kernel
theorem dX9_refuses_1 : decode cX9_refuses 1 = .ok (.getfield 19, 3) := by decide +kernel
theorem dX9_refuses_4 : decode cX9_refuses 4 = .ok (.bipush (-2), 2) := by decide +kernel
theorem dX9_refuses_6 : decode cX9_refuses 6 = .ok (.iload_n 1, 1) := by decide +kernel
theorem dX9_refuses_7 : decode cX9_refuses 7 = .ok (.isub, 1) := by decide +kernel
theorem dX9_refuses_8 : decode cX9_refuses 8 = .ok (.dup2, 1) := by decide +kernel
theorem dX9_refuses_9 : decode cX9_refuses 9 = .ok (.iaload, 1) := by decide +kernel
theorem dX9_refuses_10 : decode cX9_refuses 10 = .ok (.iconst 1, 1) := by decide +kernel
theorem dX9_refuses_11 : decode cX9_refuses 11 = .ok (.iadd, 1) := by decide +kernel
theorem dX9_refuses_12 : decode cX9_refuses 12 = .ok (.iastore, 1) := by decide +kernel
theorem dX9_refuses_13 : decode cX9_refuses 13 = .ok (.iload_n 1, 1) := by decide +kernel
theorem dX9_refuses_14 : decode cX9_refuses 14 = .ok (.ireturn, 1) := by decide +kernel
theorem dX9_hold_0 : decode cX9_hold 0 = .ok (.iconst 0, 1) := by decide +kernel
theorem dX9_hold_1 : decode cX9_hold 1 = .ok (.istore_n 1, 1) := by decide +kernel
theorem dX9_hold_2 : decode cX9_hold 2 = .ok (.iload_n 1, 1) := by decide +kernel
theorem dX9_hold_3 : decode cX9_hold 3 = .ok (.iconst 5, 1) := by decide +kernel
theorem dX9_hold_4 : decode cX9_hold 4 = .ok (.if_icmp .ge 21, 3) := by decide +kernel
theorem dX9_hold_7 : decode cX9_hold 7 = .ok (.aload_n 0, 1) := by decide +kernel
theorem dX9_hold_8 : decode cX9_hold 8 = .ok (.getfield 13, 3) := by decide +kernel
theorem dX9_hold_11 : decode cX9_hold 11 = .ok (.iload_n 1, 1) := by decide +kernel
theorem dX9_hold_12 : decode cX9_hold 12 = .ok (.aload_n 0, 1) := by decide +kernel
theorem dX9_hold_13 : decode cX9_hold 13 = .ok (.getfield 7, 3) := by decide +kernel
theorem dX9_hold_16 : decode cX9_hold 16 = .ok (.iload_n 1, 1) := by decide +kernel
theorem dX9_hold_17 : decode cX9_hold 17 = .ok (.iaload, 1) := by decide +kernel
theorem dX9_hold_18 : decode cX9_hold 18 = .ok (.iastore, 1) := by decide +kernel
theorem dX9_hold_19 : decode cX9_hold 19 = .ok (.iinc 1 1, 3) := by decide +kernel
theorem dX9_hold_22 : decode cX9_hold 22 = .ok (.goto (-20), 3) := by decide +kernel
theorem dX9_hold_25 : decode cX9_hold 25 = .ok (.return_, 1) := by decide +kernel
theorem dX9_push_0 : decode cX9_push 0 = .ok (.aload_n 0, 1) := by decide +kernel
theorem dX9_push_1 : decode cX9_push 1 = .ok (.getfield 85, 3) := by decide +kernel
theorem dX9_push_4 : decode cX9_push 4 = .ok (.iconst 5, 1) := by decide +kernel
theorem dX9_push_5 : decode cX9_push 5 = .ok (.if_icmp .ne 41, 3) := by decide +kernel
theorem dX9_push_8 : decode cX9_push 8 = .ok (.iconst 0, 1) := by decide +kernel
theorem dX9_push_9 : decode cX9_push 9 = .ok (.istore_n 1, 1) := by decide +kernel
theorem dX9_push_10 : decode cX9_push 10 = .ok (.iload_n 1, 1) := by decide +kernel
theorem dX9_push_11 : decode cX9_push 11 = .ok (.bipush 20, 2) := by decide +kernel
theorem dX9_push_13 : decode cX9_push 13 = .ok (.if_icmp .ge 23, 3) := by decide +kernel
theorem dX9_push_16 : decode cX9_push 16 = .ok (.aload_n 0, 1) := by decide +kernel
theorem dX9_push_17 : decode cX9_push 17 = .ok (.getfield 16, 3) := by decide +kernel
theorem dX9_push_20 : decode cX9_push 20 = .ok (.iload_n 1, 1) := by decide +kernel
theorem dX9_push_21 : decode cX9_push 21 = .ok (.aload_n 0, 1) := by decide +kernel
theorem dX9_push_22 : decode cX9_push 22 = .ok (.getfield 16, 3) := by decide +kernel
theorem dX9_push_25 : decode cX9_push 25 = .ok (.iload_n 1, 1) := by decide +kernel
theorem dX9_push_26 : decode cX9_push 26 = .ok (.iconst 5, 1) := by decide +kernel
theorem dX9_push_27 : decode cX9_push 27 = .ok (.iadd, 1) := by decide +kernel
theorem dX9_push_28 : decode cX9_push 28 = .ok (.iaload, 1) := by decide +kernel
theorem dX9_push_29 : decode cX9_push 29 = .ok (.iastore, 1) := by decide +kernel
theorem dX9_push_30 : decode cX9_push 30 = .ok (.iinc 1 1, 3) := by decide +kernel
theorem dX9_push_33 : decode cX9_push 33 = .ok (.goto (-23), 3) := by decide +kernel
theorem dX9_push_36 : decode cX9_push 36 = .ok (.aload_n 0, 1) := by decide +kernel
theorem dX9_push_37 : decode cX9_push 37 = .ok (.dup, 1) := by decide +kernel
theorem dX9_push_38 : decode cX9_push 38 = .ok (.getfield 85, 3) := by decide +kernel
theorem dX9_push_41 : decode cX9_push 41 = .ok (.iconst 1, 1) := by decide +kernel
theorem dX9_push_42 : decode cX9_push 42 = .ok (.isub, 1) := by decide +kernel
theorem dX9_push_43 : decode cX9_push 43 = .ok (.putfield 85, 3) := by decide +kernel
theorem dX9_push_46 : decode cX9_push 46 = .ok (.iconst 0, 1) := by decide +kernel
theorem dX9_push_47 : decode cX9_push 47 = .ok (.istore_n 1, 1) := by decide +kernel
theorem dX9_push_48 : decode cX9_push 48 = .ok (.iload_n 1, 1) := by decide +kernel
theorem dX9_push_49 : decode cX9_push 49 = .ok (.iconst 5, 1) := by decide +kernel
theorem dX9_push_50 : decode cX9_push 50 = .ok (.if_icmp .ge 28, 3) := by decide +kernel
theorem dX9_push_53 : decode cX9_push 53 = .ok (.aload_n 0, 1) := by decide +kernel
theorem dX9_push_54 : decode cX9_push 54 = .ok (.getfield 16, 3) := by decide +kernel
theorem dX9_push_57 : decode cX9_push 57 = .ok (.iconst 5, 1) := by decide +kernel
theorem dX9_push_58 : decode cX9_push 58 = .ok (.aload_n 0, 1) := by decide +kernel
theorem dX9_push_59 : decode cX9_push 59 = .ok (.getfield 85, 3) := by decide +kernel
theorem dX9_push_62 : decode cX9_push 62 = .ok (.imul, 1) := by decide +kernel
theorem dX9_push_63 : decode cX9_push 63 = .ok (.iload_n 1, 1) := by decide +kernel
theorem dX9_push_64 : decode cX9_push 64 = .ok (.iadd, 1) := by decide +kernel
theorem dX9_push_65 : decode cX9_push 65 = .ok (.aload_n 0, 1) := by decide +kernel
theorem dX9_push_66 : decode cX9_push 66 = .ok (.getfield 13, 3) := by decide +kernel
theorem dX9_push_69 : decode cX9_push 69 = .ok (.iload_n 1, 1) := by decide +kernel
theorem dX9_push_70 : decode cX9_push 70 = .ok (.iaload, 1) := by decide +kernel
theorem dX9_push_71 : decode cX9_push 71 = .ok (.iastore, 1) := by decide +kernel
theorem dX9_push_72 : decode cX9_push 72 = .ok (.iinc 1 1, 3) := by decide +kernel
theorem dX9_push_75 : decode cX9_push 75 = .ok (.goto (-27), 3) := by decide +kernel
theorem dX9_push_78 : decode cX9_push 78 = .ok (.aload_n 0, 1) := by decide +kernel
theorem dX9_push_79 : decode cX9_push 79 = .ok (.dup, 1) := by decide +kernel
theorem dX9_push_80 : decode cX9_push 80 = .ok (.getfield 85, 3) := by decide +kernel
theorem dX9_push_83 : decode cX9_push 83 = .ok (.iconst 1, 1) := by decide +kernel
theorem dX9_push_84 : decode cX9_push 84 = .ok (.iadd, 1) := by decide +kernel
theorem dX9_push_85 : decode cX9_push 85 = .ok (.putfield 85, 3) := by decide +kernel
theorem dX9_push_88 : decode cX9_push 88 = .ok (.return_, 1) := by decide +kernel
theorem dX9_ends_0 : decode cX9_ends 0 = .ok (.iload_n 1, 1) := by decide +kernel
theorem dX9_ends_1 : decode cX9_ends 1 = .ok (.ifCond .ge 9, 3) := by decide +kernel
theorem dX9_ends_4 : decode cX9_ends 4 = .ok (.aload_n 0, 1) := by decide +kernel
theorem dX9_ends_5 : decode cX9_ends 5 = .ok (.iload_n 1, 1) := by decide +kernel
theorem dX9_ends_6 : decode cX9_ends 6 = .ok (.invokevirtual 89, 3) := by decide +kernel
theorem dX9_ends_9 : decode cX9_ends 9 = .ok (.ireturn, 1) := by decide +kernel
theorem dX9_ends_10 : decode cX9_ends 10 = .ok (.aload_n 0, 1) := by decide +kernel
theorem dX9_ends_11 : decode cX9_ends 11 = .ok (.invokevirtual 93, 3) := by decide +kernel
theorem dX9_ends_14 : decode cX9_ends 14 = .ok (.iload_n 1, 1) := by decide +kernel
theorem dX9_ends_15 : decode cX9_ends 15 = .ok (.ireturn, 1) := by decide +kernel
theorem dX9_back_0 : decode cX9_back 0 = .ok (.aload_n 0, 1) := by decide +kernel
theorem dX9_back_1 : decode cX9_back 1 = .ok (.getfield 85, 3) := by decide +kernel
theorem dX9_back_4 : decode cX9_back 4 = .ok (.ifCond .ne 10, 3) := by decide +kernel
theorem dX9_back_7 : decode cX9_back 7 = .ok (.aload_n 0, 1) := by decide +kernel
theorem dX9_back_8 : decode cX9_back 8 = .ok (.bipush (-3), 2) := by decide +kernel
theorem dX9_back_10 : decode cX9_back 10 = .ok (.invokevirtual 89, 3) := by decide +kernel
theorem dX9_back_13 : decode cX9_back 13 = .ok (.ireturn, 1) := by decide +kernel
theorem dX9_back_14 : decode cX9_back 14 = .ok (.aload_n 0, 1) := by decide +kernel
theorem dX9_back_15 : decode cX9_back 15 = .ok (.dup, 1) := by decide +kernel
theorem dX9_back_16 : decode cX9_back 16 = .ok (.getfield 85, 3) := by decide +kernel
theorem dX9_back_19 : decode cX9_back 19 = .ok (.iconst 1, 1) := by decide +kernel
theorem dX9_back_20 : decode cX9_back 20 = .ok (.isub, 1) := by decide +kernel
theorem dX9_back_21 : decode cX9_back 21 = .ok (.putfield 85, 3) := by decide +kernel
theorem dX9_back_24 : decode cX9_back 24 = .ok (.iconst 0, 1) := by decide +kernel
theorem dX9_back_25 : decode cX9_back 25 = .ok (.istore_n 1, 1) := by decide +kernel
theorem dX9_back_26 : decode cX9_back 26 = .ok (.iload_n 1, 1) := by decide +kernel
theorem dX9_back_27 : decode cX9_back 27 = .ok (.iconst 5, 1) := by decide +kernel
theorem dX9_back_28 : decode cX9_back 28 = .ok (.if_icmp .ge 28, 3) := by decide +kernel
theorem dX9_back_31 : decode cX9_back 31 = .ok (.aload_n 0, 1) := by decide +kernel
theorem dX9_back_32 : decode cX9_back 32 = .ok (.getfield 7, 3) := by decide +kernel
theorem dX9_back_35 : decode cX9_back 35 = .ok (.iload_n 1, 1) := by decide +kernel
theorem dX9_back_36 : decode cX9_back 36 = .ok (.aload_n 0, 1) := by decide +kernel
theorem dX9_back_37 : decode cX9_back 37 = .ok (.getfield 16, 3) := by decide +kernel
theorem dX9_back_40 : decode cX9_back 40 = .ok (.iconst 5, 1) := by decide +kernel
theorem dX9_back_41 : decode cX9_back 41 = .ok (.aload_n 0, 1) := by decide +kernel
theorem dX9_back_42 : decode cX9_back 42 = .ok (.getfield 85, 3) := by decide +kernel
theorem dX9_back_45 : decode cX9_back 45 = .ok (.imul, 1) := by decide +kernel
theorem dX9_back_46 : decode cX9_back 46 = .ok (.iload_n 1, 1) := by decide +kernel
theorem dX9_back_47 : decode cX9_back 47 = .ok (.iadd, 1) := by decide +kernel
theorem dX9_back_48 : decode cX9_back 48 = .ok (.iaload, 1) := by decide +kernel
theorem dX9_back_49 : decode cX9_back 49 = .ok (.iastore, 1) := by decide +kernel
theorem dX9_back_50 : decode cX9_back 50 = .ok (.iinc 1 1, 3) := by decide +kernel
theorem dX9_back_53 : decode cX9_back 53 = .ok (.goto (-27), 3) := by decide +kernel
theorem dX9_back_56 : decode cX9_back 56 = .ok (.aload_n 0, 1) := by decide +kernel
theorem dX9_back_57 : decode cX9_back 57 = .ok (.iconst 0, 1) := by decide +kernel
theorem dX9_back_58 : decode cX9_back 58 = .ok (.putfield 96, 3) := by decide +kernel
theorem dX9_back_61 : decode cX9_back 61 = .ok (.aload_n 0, 1) := by decide +kernel
theorem dX9_back_62 : decode cX9_back 62 = .ok (.getfield 85, 3) := by decide +kernel
theorem dX9_back_65 : decode cX9_back 65 = .ok (.ireturn, 1) := by decide +kernel
theorem dX9_to_0 : decode cX9_to 0 = .ok (.iload_n 1, 1) := by decide +kernel
theorem dX9_to_1 : decode cX9_to 1 = .ok (.istore_n 3, 1) := by decide +kernel
theorem dX9_to_2 : decode cX9_to 2 = .ok (.aload_n 0, 1) := by decide +kernel
theorem dX9_to_3 : decode cX9_to 3 = .ok (.getfield 7, 3) := by decide +kernel
theorem dX9_to_6 : decode cX9_to 6 = .ok (.iconst 0, 1) := by decide +kernel
theorem dX9_to_7 : decode cX9_to 7 = .ok (.iaload, 1) := by decide +kernel
theorem dX9_to_8 : decode cX9_to 8 = .ok (.iconst 1, 1) := by decide +kernel
theorem dX9_to_9 : decode cX9_to 9 = .ok (.isub, 1) := by decide +kernel
theorem dX9_to_10 : decode cX9_to 10 = .ok (.istore 4, 2) := by decide +kernel
theorem dX9_to_12 : decode cX9_to 12 = .ok (.iload 4, 2) := by decide +kernel
theorem dX9_to_14 : decode cX9_to 14 = .ok (.iload_n 2, 1) := by decide +kernel
theorem dX9_to_15 : decode cX9_to 15 = .ok (.if_icmp .le 14, 3) := by decide +kernel
theorem dX9_to_18 : decode cX9_to 18 = .ok (.iload_n 3, 1) := by decide +kernel
theorem dX9_to_19 : decode cX9_to 19 = .ok (.bipush 10, 2) := by decide +kernel
theorem dX9_to_21 : decode cX9_to 21 = .ok (.idiv, 1) := by decide +kernel
theorem dX9_to_22 : decode cX9_to 22 = .ok (.istore_n 3, 1) := by decide +kernel
theorem dX9_to_23 : decode cX9_to 23 = .ok (.iinc 4 (-1), 3) := by decide +kernel
theorem dX9_to_26 : decode cX9_to 26 = .ok (.goto (-14), 3) := by decide +kernel
theorem dX9_to_29 : decode cX9_to 29 = .ok (.iload_n 3, 1) := by decide +kernel
theorem dX9_to_30 : decode cX9_to 30 = .ok (.bipush 10, 2) := by decide +kernel
theorem dX9_to_32 : decode cX9_to 32 = .ok (.irem, 1) := by decide +kernel
theorem dX9_to_33 : decode cX9_to 33 = .ok (.ireturn, 1) := by decide +kernel
theorem dX9_isMove_0 : decode cX9_isMove 0 = .ok (.iconst 1, 1) := by decide +kernel
theorem dX9_isMove_1 : decode cX9_isMove 1 = .ok (.istore_n 2, 1) := by decide +kernel
theorem dX9_isMove_2 : decode cX9_isMove 2 = .ok (.iconst 0, 1) := by decide +kernel
theorem dX9_isMove_3 : decode cX9_isMove 3 = .ok (.istore_n 3, 1) := by decide +kernel
theorem dX9_isMove_4 : decode cX9_isMove 4 = .ok (.iload_n 3, 1) := by decide +kernel
theorem dX9_isMove_5 : decode cX9_isMove 5 = .ok (.aload_n 0, 1) := by decide +kernel
theorem dX9_isMove_6 : decode cX9_isMove 6 = .ok (.getfield 7, 3) := by decide +kernel
theorem dX9_isMove_9 : decode cX9_isMove 9 = .ok (.iconst 0, 1) := by decide +kernel
theorem dX9_isMove_10 : decode cX9_isMove 10 = .ok (.iaload, 1) := by decide +kernel
theorem dX9_isMove_11 : decode cX9_isMove 11 = .ok (.if_icmp .ge 14, 3) := by decide +kernel
theorem dX9_isMove_14 : decode cX9_isMove 14 = .ok (.iload_n 2, 1) := by decide +kernel
theorem dX9_isMove_15 : decode cX9_isMove 15 = .ok (.bipush 10, 2) := by decide +kernel
theorem dX9_isMove_17 : decode cX9_isMove 17 = .ok (.imul, 1) := by decide +kernel
theorem dX9_isMove_18 : decode cX9_isMove 18 = .ok (.istore_n 2, 1) := by decide +kernel
theorem dX9_isMove_19 : decode cX9_isMove 19 = .ok (.iinc 3 1, 3) := by decide +kernel
theorem dX9_isMove_22 : decode cX9_isMove 22 = .ok (.goto (-18), 3) := by decide +kernel
theorem dX9_isMove_25 : decode cX9_isMove 25 = .ok (.iload_n 1, 1) := by decide +kernel
theorem dX9_isMove_26 : decode cX9_isMove 26 = .ok (.iconst 0, 1) := by decide +kernel
theorem dX9_isMove_27 : decode cX9_isMove 27 = .ok (.iload_n 2, 1) := by decide +kernel
theorem dX9_isMove_28 : decode cX9_isMove 28 = .ok (.iconst 1, 1) := by decide +kernel
theorem dX9_isMove_29 : decode cX9_isMove 29 = .ok (.isub, 1) := by decide +kernel
theorem dX9_isMove_30 : decode cX9_isMove 30 = .ok (.invokestatic 100, 3) := by decide +kernel
theorem dX9_isMove_33 : decode cX9_isMove 33 = .ok (.ifCond .ne 5, 3) := by decide +kernel
theorem dX9_isMove_36 : decode cX9_isMove 36 = .ok (.iconst 0, 1) := by decide +kernel
theorem dX9_isMove_37 : decode cX9_isMove 37 = .ok (.ireturn, 1) := by decide +kernel
theorem dX9_isMove_38 : decode cX9_isMove 38 = .ok (.iconst 0, 1) := by decide +kernel
theorem dX9_isMove_39 : decode cX9_isMove 39 = .ok (.istore_n 3, 1) := by decide +kernel
theorem dX9_isMove_40 : decode cX9_isMove 40 = .ok (.iconst 0, 1) := by decide +kernel
theorem dX9_isMove_41 : decode cX9_isMove 41 = .ok (.istore 4, 2) := by decide +kernel
theorem dX9_isMove_43 : decode cX9_isMove 43 = .ok (.iload 4, 2) := by decide +kernel
theorem dX9_isMove_45 : decode cX9_isMove 45 = .ok (.aload_n 0, 1) := by decide +kernel
theorem dX9_isMove_46 : decode cX9_isMove 46 = .ok (.getfield 7, 3) := by decide +kernel
theorem dX9_isMove_49 : decode cX9_isMove 49 = .ok (.iconst 0, 1) := by decide +kernel
theorem dX9_isMove_50 : decode cX9_isMove 50 = .ok (.iaload, 1) := by decide +kernel
theorem dX9_isMove_51 : decode cX9_isMove 51 = .ok (.if_icmp .ge 21, 3) := by decide +kernel
theorem dX9_isMove_54 : decode cX9_isMove 54 = .ok (.iload_n 3, 1) := by decide +kernel
theorem dX9_isMove_55 : decode cX9_isMove 55 = .ok (.iconst 1, 1) := by decide +kernel
theorem dX9_isMove_56 : decode cX9_isMove 56 = .ok (.aload_n 0, 1) := by decide +kernel
theorem dX9_isMove_57 : decode cX9_isMove 57 = .ok (.iload_n 1, 1) := by decide +kernel
theorem dX9_isMove_58 : decode cX9_isMove 58 = .ok (.iload 4, 2) := by decide +kernel
theorem dX9_isMove_60 : decode cX9_isMove 60 = .ok (.invokevirtual 104, 3) := by decide +kernel
theorem dX9_isMove_63 : decode cX9_isMove 63 = .ok (.ishl, 1) := by decide +kernel
theorem dX9_isMove_64 : decode cX9_isMove 64 = .ok (.ior, 1) := by decide +kernel
theorem dX9_isMove_65 : decode cX9_isMove 65 = .ok (.istore_n 3, 1) := by decide +kernel
theorem dX9_isMove_66 : decode cX9_isMove 66 = .ok (.iinc 4 1, 3) := by decide +kernel
theorem dX9_isMove_69 : decode cX9_isMove 69 = .ok (.goto (-26), 3) := by decide +kernel
theorem dX9_isMove_72 : decode cX9_isMove 72 = .ok (.iload_n 3, 1) := by decide +kernel
theorem dX9_isMove_73 : decode cX9_isMove 73 = .ok (.iconst 1, 1) := by decide +kernel
theorem dX9_isMove_74 : decode cX9_isMove 74 = .ok (.aload_n 0, 1) := by decide +kernel
theorem dX9_isMove_75 : decode cX9_isMove 75 = .ok (.getfield 7, 3) := by decide +kernel
theorem dX9_isMove_78 : decode cX9_isMove 78 = .ok (.iconst 0, 1) := by decide +kernel
theorem dX9_isMove_79 : decode cX9_isMove 79 = .ok (.iaload, 1) := by decide +kernel
theorem dX9_isMove_80 : decode cX9_isMove 80 = .ok (.ishl, 1) := by decide +kernel
theorem dX9_isMove_81 : decode cX9_isMove 81 = .ok (.iconst 1, 1) := by decide +kernel
theorem dX9_isMove_82 : decode cX9_isMove 82 = .ok (.isub, 1) := by decide +kernel
theorem dX9_isMove_83 : decode cX9_isMove 83 = .ok (.if_icmp .ne 7, 3) := by decide +kernel
theorem dX9_isMove_86 : decode cX9_isMove 86 = .ok (.iconst 1, 1) := by decide +kernel
theorem dX9_isMove_87 : decode cX9_isMove 87 = .ok (.goto 4, 3) := by decide +kernel
theorem dX9_isMove_90 : decode cX9_isMove 90 = .ok (.iconst 0, 1) := by decide +kernel
theorem dX9_isMove_91 : decode cX9_isMove 91 = .ok (.ireturn, 1) := by decide +kernel
theorem dX9_both_0 : decode cX9_both 0 = .ok (.iconst 0, 1) := by decide +kernel
theorem dX9_both_1 : decode cX9_both 1 = .ok (.istore_n 3, 1) := by decide +kernel
theorem dX9_both_2 : decode cX9_both 2 = .ok (.iconst 0, 1) := by decide +kernel
theorem dX9_both_3 : decode cX9_both 3 = .ok (.istore 4, 2) := by decide +kernel
theorem dX9_both_5 : decode cX9_both 5 = .ok (.iload 4, 2) := by decide +kernel
theorem dX9_both_7 : decode cX9_both 7 = .ok (.aload_n 0, 1) := by decide +kernel
theorem dX9_both_8 : decode cX9_both 8 = .ok (.getfield 7, 3) := by decide +kernel
theorem dX9_both_11 : decode cX9_both 11 = .ok (.iconst 0, 1) := by decide +kernel
theorem dX9_both_12 : decode cX9_both 12 = .ok (.iaload, 1) := by decide +kernel
theorem dX9_both_13 : decode cX9_both 13 = .ok (.if_icmp .ge 27, 3) := by decide +kernel
theorem dX9_both_16 : decode cX9_both 16 = .ok (.bipush 10, 2) := by decide +kernel
theorem dX9_both_18 : decode cX9_both 18 = .ok (.iload_n 3, 1) := by decide +kernel
theorem dX9_both_19 : decode cX9_both 19 = .ok (.imul, 1) := by decide +kernel
theorem dX9_both_20 : decode cX9_both 20 = .ok (.aload_n 0, 1) := by decide +kernel
theorem dX9_both_21 : decode cX9_both 21 = .ok (.iload_n 2, 1) := by decide +kernel
theorem dX9_both_22 : decode cX9_both 22 = .ok (.aload_n 0, 1) := by decide +kernel
theorem dX9_both_23 : decode cX9_both 23 = .ok (.iload_n 1, 1) := by decide +kernel
theorem dX9_both_24 : decode cX9_both 24 = .ok (.iload 4, 2) := by decide +kernel
theorem dX9_both_26 : decode cX9_both 26 = .ok (.invokevirtual 104, 3) := by decide +kernel
theorem dX9_both_29 : decode cX9_both 29 = .ok (.invokevirtual 104, 3) := by decide +kernel
theorem dX9_both_32 : decode cX9_both 32 = .ok (.iadd, 1) := by decide +kernel
theorem dX9_both_33 : decode cX9_both 33 = .ok (.istore_n 3, 1) := by decide +kernel
theorem dX9_both_34 : decode cX9_both 34 = .ok (.iinc 4 1, 3) := by decide +kernel
theorem dX9_both_37 : decode cX9_both 37 = .ok (.goto (-32), 3) := by decide +kernel
theorem dX9_both_40 : decode cX9_both 40 = .ok (.iload_n 3, 1) := by decide +kernel
theorem dX9_both_41 : decode cX9_both 41 = .ok (.ireturn, 1) := by decide +kernel
theorem dX9_stays_0 : decode cX9_stays 0 = .ok (.iconst 0, 1) := by decide +kernel
theorem dX9_stays_1 : decode cX9_stays 1 = .ok (.istore_n 1, 1) := by decide +kernel
theorem dX9_stays_2 : decode cX9_stays 2 = .ok (.iconst 0, 1) := by decide +kernel
theorem dX9_stays_3 : decode cX9_stays 3 = .ok (.istore_n 2, 1) := by decide +kernel
theorem dX9_stays_4 : decode cX9_stays 4 = .ok (.iload_n 2, 1) := by decide +kernel
theorem dX9_stays_5 : decode cX9_stays 5 = .ok (.aload_n 0, 1) := by decide +kernel
theorem dX9_stays_6 : decode cX9_stays 6 = .ok (.getfield 7, 3) := by decide +kernel
theorem dX9_stays_9 : decode cX9_stays 9 = .ok (.iconst 0, 1) := by decide +kernel
theorem dX9_stays_10 : decode cX9_stays 10 = .ok (.iaload, 1) := by decide +kernel
theorem dX9_stays_11 : decode cX9_stays 11 = .ok (.if_icmp .ge 16, 3) := by decide +kernel
theorem dX9_stays_14 : decode cX9_stays 14 = .ok (.bipush 10, 2) := by decide +kernel
theorem dX9_stays_16 : decode cX9_stays 16 = .ok (.iload_n 1, 1) := by decide +kernel
theorem dX9_stays_17 : decode cX9_stays 17 = .ok (.imul, 1) := by decide +kernel
theorem dX9_stays_18 : decode cX9_stays 18 = .ok (.iload_n 2, 1) := by decide +kernel
theorem dX9_stays_19 : decode cX9_stays 19 = .ok (.iadd, 1) := by decide +kernel
theorem dX9_stays_20 : decode cX9_stays 20 = .ok (.istore_n 1, 1) := by decide +kernel
theorem dX9_stays_21 : decode cX9_stays 21 = .ok (.iinc 2 1, 3) := by decide +kernel
theorem dX9_stays_24 : decode cX9_stays 24 = .ok (.goto (-20), 3) := by decide +kernel
theorem dX9_stays_27 : decode cX9_stays 27 = .ok (.iload_n 1, 1) := by decide +kernel
theorem dX9_stays_28 : decode cX9_stays 28 = .ok (.ireturn, 1) := by decide +kernel
theorem dX9_doPoints_0 : decode cX9_doPoints 0 = .ok (.iload_n 1, 1) := by decide +kernel
theorem dX9_doPoints_1 : decode cX9_doPoints 1 = .ok (.iconst 1, 1) := by decide +kernel
theorem dX9_doPoints_2 : decode cX9_doPoints 2 = .ok (.iconst 5, 1) := by decide +kernel
theorem dX9_doPoints_3 : decode cX9_doPoints 3 = .ok (.invokestatic 100, 3) := by decide +kernel
theorem dX9_doPoints_6 : decode cX9_doPoints 6 = .ok (.ifCond .ne 6, 3) := by decide +kernel
theorem dX9_doPoints_9 : decode cX9_doPoints 9 = .ok (.bipush (-2), 2) := by decide +kernel
theorem dX9_doPoints_11 : decode cX9_doPoints 11 = .ok (.ireturn, 1) := by decide +kernel
theorem dX9_doPoints_12 : decode cX9_doPoints 12 = .ok (.aload_n 0, 1) := by decide +kernel
theorem dX9_doPoints_13 : decode cX9_doPoints 13 = .ok (.getfield 7, 3) := by decide +kernel
theorem dX9_doPoints_16 : decode cX9_doPoints 16 = .ok (.iconst 0, 1) := by decide +kernel
theorem dX9_doPoints_17 : decode cX9_doPoints 17 = .ok (.iaload, 1) := by decide +kernel
theorem dX9_doPoints_18 : decode cX9_doPoints 18 = .ok (.istore_n 2, 1) := by decide +kernel
theorem dX9_doPoints_19 : decode cX9_doPoints 19 = .ok (.aload_n 0, 1) := by decide +kernel
theorem dX9_doPoints_20 : decode cX9_doPoints 20 = .ok (.getfield 7, 3) := by decide +kernel
theorem dX9_doPoints_23 : decode cX9_doPoints 23 = .ok (.iconst 0, 1) := by decide +kernel
theorem dX9_doPoints_24 : decode cX9_doPoints 24 = .ok (.iload_n 1, 1) := by decide +kernel
theorem dX9_doPoints_25 : decode cX9_doPoints 25 = .ok (.iastore, 1) := by decide +kernel
theorem dX9_doPoints_26 : decode cX9_doPoints 26 = .ok (.aload_n 0, 1) := by decide +kernel
theorem dX9_doPoints_27 : decode cX9_doPoints 27 = .ok (.getfield 7, 3) := by decide +kernel
theorem dX9_doPoints_30 : decode cX9_doPoints 30 = .ok (.iconst 1, 1) := by decide +kernel
theorem dX9_doPoints_31 : decode cX9_doPoints 31 = .ok (.iconst 0, 1) := by decide +kernel
theorem dX9_doPoints_32 : decode cX9_doPoints 32 = .ok (.iastore, 1) := by decide +kernel
theorem dX9_doPoints_33 : decode cX9_doPoints 33 = .ok (.aload_n 0, 1) := by decide +kernel
theorem dX9_doPoints_34 : decode cX9_doPoints 34 = .ok (.iconst 0, 1) := by decide +kernel
theorem dX9_doPoints_35 : decode cX9_doPoints 35 = .ok (.putfield 96, 3) := by decide +kernel
theorem dX9_doPoints_38 : decode cX9_doPoints 38 = .ok (.iload_n 2, 1) := by decide +kernel
theorem dX9_doPoints_39 : decode cX9_doPoints 39 = .ok (.ireturn, 1) := by decide +kernel
theorem dX9_doMoves_0 : decode cX9_doMoves 0 = .ok (.aload_n 0, 1) := by decide +kernel
theorem dX9_doMoves_1 : decode cX9_doMoves 1 = .ok (.iload_n 1, 1) := by decide +kernel
theorem dX9_doMoves_2 : decode cX9_doMoves 2 = .ok (.invokevirtual 108, 3) := by decide +kernel
theorem dX9_doMoves_5 : decode cX9_doMoves 5 = .ok (.ifCond .ne 6, 3) := by decide +kernel
theorem dX9_doMoves_8 : decode cX9_doMoves 8 = .ok (.bipush (-2), 2) := by decide +kernel
theorem dX9_doMoves_10 : decode cX9_doMoves 10 = .ok (.ireturn, 1) := by decide +kernel
theorem dX9_doMoves_11 : decode cX9_doMoves 11 = .ok (.aload_n 0, 1) := by decide +kernel
theorem dX9_doMoves_12 : decode cX9_doMoves 12 = .ok (.getfield 7, 3) := by decide +kernel
theorem dX9_doMoves_15 : decode cX9_doMoves 15 = .ok (.iconst 1, 1) := by decide +kernel
theorem dX9_doMoves_16 : decode cX9_doMoves 16 = .ok (.iaload, 1) := by decide +kernel
theorem dX9_doMoves_17 : decode cX9_doMoves 17 = .ok (.iconst 3, 1) := by decide +kernel
theorem dX9_doMoves_18 : decode cX9_doMoves 18 = .ok (.if_icmp .ne 6, 3) := by decide +kernel
theorem dX9_doMoves_21 : decode cX9_doMoves 21 = .ok (.bipush (-4), 2) := by decide +kernel
theorem dX9_doMoves_23 : decode cX9_doMoves 23 = .ok (.ireturn, 1) := by decide +kernel
theorem dX9_doMoves_24 : decode cX9_doMoves 24 = .ok (.aload_n 0, 1) := by decide +kernel
theorem dX9_doMoves_25 : decode cX9_doMoves 25 = .ok (.getfield 7, 3) := by decide +kernel
theorem dX9_doMoves_28 : decode cX9_doMoves 28 = .ok (.iconst 2, 1) := by decide +kernel
theorem dX9_doMoves_29 : decode cX9_doMoves 29 = .ok (.aload_n 0, 1) := by decide +kernel
theorem dX9_doMoves_30 : decode cX9_doMoves 30 = .ok (.getfield 7, 3) := by decide +kernel
theorem dX9_doMoves_33 : decode cX9_doMoves 33 = .ok (.iconst 1, 1) := by decide +kernel
theorem dX9_doMoves_34 : decode cX9_doMoves 34 = .ok (.iaload, 1) := by decide +kernel
theorem dX9_doMoves_35 : decode cX9_doMoves 35 = .ok (.iadd, 1) := by decide +kernel
theorem dX9_doMoves_36 : decode cX9_doMoves 36 = .ok (.iload_n 1, 1) := by decide +kernel
theorem dX9_doMoves_37 : decode cX9_doMoves 37 = .ok (.iastore, 1) := by decide +kernel
theorem dX9_doMoves_38 : decode cX9_doMoves 38 = .ok (.aload_n 0, 1) := by decide +kernel
theorem dX9_doMoves_39 : decode cX9_doMoves 39 = .ok (.getfield 7, 3) := by decide +kernel
theorem dX9_doMoves_42 : decode cX9_doMoves 42 = .ok (.iconst 1, 1) := by decide +kernel
theorem dX9_doMoves_43 : decode cX9_doMoves 43 = .ok (.dup2, 1) := by decide +kernel
theorem dX9_doMoves_44 : decode cX9_doMoves 44 = .ok (.iaload, 1) := by decide +kernel
theorem dX9_doMoves_45 : decode cX9_doMoves 45 = .ok (.iconst 1, 1) := by decide +kernel
theorem dX9_doMoves_46 : decode cX9_doMoves 46 = .ok (.iadd, 1) := by decide +kernel
theorem dX9_doMoves_47 : decode cX9_doMoves 47 = .ok (.iastore, 1) := by decide +kernel
theorem dX9_doMoves_48 : decode cX9_doMoves 48 = .ok (.aload_n 0, 1) := by decide +kernel
theorem dX9_doMoves_49 : decode cX9_doMoves 49 = .ok (.iconst 0, 1) := by decide +kernel
theorem dX9_doMoves_50 : decode cX9_doMoves 50 = .ok (.putfield 96, 3) := by decide +kernel
theorem dX9_doMoves_53 : decode cX9_doMoves 53 = .ok (.aload_n 0, 1) := by decide +kernel
theorem dX9_doMoves_54 : decode cX9_doMoves 54 = .ok (.getfield 7, 3) := by decide +kernel
theorem dX9_doMoves_57 : decode cX9_doMoves 57 = .ok (.iconst 1, 1) := by decide +kernel
theorem dX9_doMoves_58 : decode cX9_doMoves 58 = .ok (.iaload, 1) := by decide +kernel
theorem dX9_doMoves_59 : decode cX9_doMoves 59 = .ok (.iconst 1, 1) := by decide +kernel
theorem dX9_doMoves_60 : decode cX9_doMoves 60 = .ok (.isub, 1) := by decide +kernel
theorem dX9_doMoves_61 : decode cX9_doMoves 61 = .ok (.ireturn, 1) := by decide +kernel
theorem dX9_doDrops_0 : decode cX9_doDrops 0 = .ok (.iload_n 1, 1) := by decide +kernel
theorem dX9_doDrops_1 : decode cX9_doDrops 1 = .ok (.iconst 0, 1) := by decide +kernel
theorem dX9_doDrops_2 : decode cX9_doDrops 2 = .ok (.aload_n 0, 1) := by decide +kernel
theorem dX9_doDrops_3 : decode cX9_doDrops 3 = .ok (.getfield 7, 3) := by decide +kernel
theorem dX9_doDrops_6 : decode cX9_doDrops 6 = .ok (.iconst 1, 1) := by decide +kernel
theorem dX9_doDrops_7 : decode cX9_doDrops 7 = .ok (.iaload, 1) := by decide +kernel
theorem dX9_doDrops_8 : decode cX9_doDrops 8 = .ok (.iconst 1, 1) := by decide +kernel
theorem dX9_doDrops_9 : decode cX9_doDrops 9 = .ok (.isub, 1) := by decide +kernel
theorem dX9_doDrops_10 : decode cX9_doDrops 10 = .ok (.invokestatic 100, 3) := by decide +kernel
theorem dX9_doDrops_13 : decode cX9_doDrops 13 = .ok (.ifCond .ne 6, 3) := by decide +kernel
theorem dX9_doDrops_16 : decode cX9_doDrops 16 = .ok (.bipush (-2), 2) := by decide +kernel
theorem dX9_doDrops_18 : decode cX9_doDrops 18 = .ok (.ireturn, 1) := by decide +kernel
theorem dX9_doDrops_19 : decode cX9_doDrops 19 = .ok (.aload_n 0, 1) := by decide +kernel
theorem dX9_doDrops_20 : decode cX9_doDrops 20 = .ok (.getfield 7, 3) := by decide +kernel
theorem dX9_doDrops_23 : decode cX9_doDrops 23 = .ok (.iconst 1, 1) := by decide +kernel
theorem dX9_doDrops_24 : decode cX9_doDrops 24 = .ok (.dup2, 1) := by decide +kernel
theorem dX9_doDrops_25 : decode cX9_doDrops 25 = .ok (.iaload, 1) := by decide +kernel
theorem dX9_doDrops_26 : decode cX9_doDrops 26 = .ok (.iconst 1, 1) := by decide +kernel
theorem dX9_doDrops_27 : decode cX9_doDrops 27 = .ok (.isub, 1) := by decide +kernel
theorem dX9_doDrops_28 : decode cX9_doDrops 28 = .ok (.iastore, 1) := by decide +kernel
theorem dX9_doDrops_29 : decode cX9_doDrops 29 = .ok (.iload_n 1, 1) := by decide +kernel
theorem dX9_doDrops_30 : decode cX9_doDrops 30 = .ok (.istore_n 2, 1) := by decide +kernel
theorem dX9_doDrops_31 : decode cX9_doDrops 31 = .ok (.iload_n 2, 1) := by decide +kernel
theorem dX9_doDrops_32 : decode cX9_doDrops 32 = .ok (.aload_n 0, 1) := by decide +kernel
theorem dX9_doDrops_33 : decode cX9_doDrops 33 = .ok (.getfield 7, 3) := by decide +kernel
theorem dX9_doDrops_36 : decode cX9_doDrops 36 = .ok (.iconst 1, 1) := by decide +kernel
theorem dX9_doDrops_37 : decode cX9_doDrops 37 = .ok (.iaload, 1) := by decide +kernel
theorem dX9_doDrops_38 : decode cX9_doDrops 38 = .ok (.if_icmp .ge 25, 3) := by decide +kernel
theorem dX9_doDrops_41 : decode cX9_doDrops 41 = .ok (.aload_n 0, 1) := by decide +kernel
theorem dX9_doDrops_42 : decode cX9_doDrops 42 = .ok (.getfield 7, 3) := by decide +kernel
theorem dX9_doDrops_45 : decode cX9_doDrops 45 = .ok (.iconst 2, 1) := by decide +kernel
theorem dX9_doDrops_46 : decode cX9_doDrops 46 = .ok (.iload_n 2, 1) := by decide +kernel
theorem dX9_doDrops_47 : decode cX9_doDrops 47 = .ok (.iadd, 1) := by decide +kernel
theorem dX9_doDrops_48 : decode cX9_doDrops 48 = .ok (.aload_n 0, 1) := by decide +kernel
theorem dX9_doDrops_49 : decode cX9_doDrops 49 = .ok (.getfield 7, 3) := by decide +kernel
theorem dX9_doDrops_52 : decode cX9_doDrops 52 = .ok (.iconst 3, 1) := by decide +kernel
theorem dX9_doDrops_53 : decode cX9_doDrops 53 = .ok (.iload_n 2, 1) := by decide +kernel
theorem dX9_doDrops_54 : decode cX9_doDrops 54 = .ok (.iadd, 1) := by decide +kernel
theorem dX9_doDrops_55 : decode cX9_doDrops 55 = .ok (.iaload, 1) := by decide +kernel
theorem dX9_doDrops_56 : decode cX9_doDrops 56 = .ok (.iastore, 1) := by decide +kernel
theorem dX9_doDrops_57 : decode cX9_doDrops 57 = .ok (.iinc 2 1, 3) := by decide +kernel
theorem dX9_doDrops_60 : decode cX9_doDrops 60 = .ok (.goto (-29), 3) := by decide +kernel
theorem dX9_doDrops_63 : decode cX9_doDrops 63 = .ok (.aload_n 0, 1) := by decide +kernel
theorem dX9_doDrops_64 : decode cX9_doDrops 64 = .ok (.iconst 0, 1) := by decide +kernel
theorem dX9_doDrops_65 : decode cX9_doDrops 65 = .ok (.putfield 96, 3) := by decide +kernel
theorem dX9_doDrops_68 : decode cX9_doDrops 68 = .ok (.aload_n 0, 1) := by decide +kernel
theorem dX9_doDrops_69 : decode cX9_doDrops 69 = .ok (.getfield 7, 3) := by decide +kernel
theorem dX9_doDrops_72 : decode cX9_doDrops 72 = .ok (.iconst 1, 1) := by decide +kernel
theorem dX9_doDrops_73 : decode cX9_doDrops 73 = .ok (.iaload, 1) := by decide +kernel
theorem dX9_doDrops_74 : decode cX9_doDrops 74 = .ok (.ireturn, 1) := by decide +kernel
theorem dX9_points_0 : decode cX9_points 0 = .ok (.aload_n 0, 1) := by decide +kernel
theorem dX9_points_1 : decode cX9_points 1 = .ok (.invokevirtual 112, 3) := by decide +kernel
theorem dX9_points_4 : decode cX9_points 4 = .ok (.aload_n 0, 1) := by decide +kernel
theorem dX9_points_5 : decode cX9_points 5 = .ok (.aload_n 0, 1) := by decide +kernel
theorem dX9_points_6 : decode cX9_points 6 = .ok (.iload_n 1, 1) := by decide +kernel
theorem dX9_points_7 : decode cX9_points 7 = .ok (.invokevirtual 115, 3) := by decide +kernel
theorem dX9_points_10 : decode cX9_points 10 = .ok (.invokevirtual 118, 3) := by decide +kernel
theorem dX9_points_13 : decode cX9_points 13 = .ok (.ireturn, 1) := by decide +kernel
theorem dX9_moves_0 : decode cX9_moves 0 = .ok (.aload_n 0, 1) := by decide +kernel
theorem dX9_moves_1 : decode cX9_moves 1 = .ok (.invokevirtual 112, 3) := by decide +kernel
theorem dX9_moves_4 : decode cX9_moves 4 = .ok (.aload_n 0, 1) := by decide +kernel
theorem dX9_moves_5 : decode cX9_moves 5 = .ok (.aload_n 0, 1) := by decide +kernel
theorem dX9_moves_6 : decode cX9_moves 6 = .ok (.iload_n 1, 1) := by decide +kernel
theorem dX9_moves_7 : decode cX9_moves 7 = .ok (.invokevirtual 121, 3) := by decide +kernel
theorem dX9_moves_10 : decode cX9_moves 10 = .ok (.invokevirtual 118, 3) := by decide +kernel
theorem dX9_moves_13 : decode cX9_moves 13 = .ok (.ireturn, 1) := by decide +kernel
theorem dX9_drops_0 : decode cX9_drops 0 = .ok (.aload_n 0, 1) := by decide +kernel
theorem dX9_drops_1 : decode cX9_drops 1 = .ok (.invokevirtual 112, 3) := by decide +kernel
theorem dX9_drops_4 : decode cX9_drops 4 = .ok (.aload_n 0, 1) := by decide +kernel
theorem dX9_drops_5 : decode cX9_drops 5 = .ok (.aload_n 0, 1) := by decide +kernel
theorem dX9_drops_6 : decode cX9_drops 6 = .ok (.iload_n 1, 1) := by decide +kernel
theorem dX9_drops_7 : decode cX9_drops 7 = .ok (.invokevirtual 124, 3) := by decide +kernel
theorem dX9_drops_10 : decode cX9_drops 10 = .ok (.invokevirtual 118, 3) := by decide +kernel
theorem dX9_drops_13 : decode cX9_drops 13 = .ok (.ireturn, 1) := by decide +kernel
theorem dX9_find_0 : decode cX9_find 0 = .ok (.iconst 0, 1) := by decide +kernel
theorem dX9_find_1 : decode cX9_find 1 = .ok (.istore_n 2, 1) := by decide +kernel
theorem dX9_find_2 : decode cX9_find 2 = .ok (.iload_n 2, 1) := by decide +kernel
theorem dX9_find_3 : decode cX9_find 3 = .ok (.aload_n 0, 1) := by decide +kernel
theorem dX9_find_4 : decode cX9_find 4 = .ok (.getfield 127, 3) := by decide +kernel
theorem dX9_find_7 : decode cX9_find 7 = .ok (.if_icmp .ge 19, 3) := by decide +kernel
theorem dX9_find_10 : decode cX9_find 10 = .ok (.aload_n 0, 1) := by decide +kernel
theorem dX9_find_11 : decode cX9_find 11 = .ok (.getfield 22, 3) := by decide +kernel
theorem dX9_find_14 : decode cX9_find 14 = .ok (.iload_n 2, 1) := by decide +kernel
theorem dX9_find_15 : decode cX9_find 15 = .ok (.iaload, 1) := by decide +kernel
theorem dX9_find_16 : decode cX9_find 16 = .ok (.iload_n 1, 1) := by decide +kernel
theorem dX9_find_17 : decode cX9_find 17 = .ok (.if_icmp .eq 9, 3) := by decide +kernel
theorem dX9_find_20 : decode cX9_find 20 = .ok (.iinc 2 1, 3) := by decide +kernel
theorem dX9_find_23 : decode cX9_find 23 = .ok (.goto (-21), 3) := by decide +kernel
theorem dX9_find_26 : decode cX9_find 26 = .ok (.iload_n 2, 1) := by decide +kernel
theorem dX9_find_27 : decode cX9_find 27 = .ok (.ireturn, 1) := by decide +kernel
theorem dX9_findElements_0 : decode cX9_findElements 0 = .ok (.aload_n 0, 1) := by decide +kernel
theorem dX9_findElements_1 : decode cX9_findElements 1 = .ok (.iconst 1, 1) := by decide +kernel
theorem dX9_findElements_2 : decode cX9_findElements 2 = .ok (.putfield 127, 3) := by decide +kernel
theorem dX9_findElements_5 : decode cX9_findElements 5 = .ok (.aload_n 0, 1) := by decide +kernel
theorem dX9_findElements_6 : decode cX9_findElements 6 = .ok (.getfield 22, 3) := by decide +kernel
theorem dX9_findElements_9 : decode cX9_findElements 9 = .ok (.iconst 0, 1) := by decide +kernel
theorem dX9_findElements_10 : decode cX9_findElements 10 = .ok (.aload_n 0, 1) := by decide +kernel
theorem dX9_findElements_11 : decode cX9_findElements 11 = .ok (.invokevirtual 130, 3) := by decide +kernel
theorem dX9_findElements_14 : decode cX9_findElements 14 = .ok (.iastore, 1) := by decide +kernel
theorem dX9_findElements_15 : decode cX9_findElements 15 = .ok (.iconst 0, 1) := by decide +kernel
theorem dX9_findElements_16 : decode cX9_findElements 16 = .ok (.istore_n 1, 1) := by decide +kernel
theorem dX9_findElements_17 : decode cX9_findElements 17 = .ok (.iload_n 1, 1) := by decide +kernel
theorem dX9_findElements_18 : decode cX9_findElements 18 = .ok (.aload_n 0, 1) := by decide +kernel
theorem dX9_findElements_19 : decode cX9_findElements 19 = .ok (.getfield 127, 3) := by decide +kernel
theorem dX9_findElements_22 : decode cX9_findElements 22 = .ok (.if_icmp .ge 78, 3) := by decide +kernel
theorem dX9_findElements_25 : decode cX9_findElements 25 = .ok (.iconst 0, 1) := by decide +kernel
theorem dX9_findElements_26 : decode cX9_findElements 26 = .ok (.istore_n 2, 1) := by decide +kernel
theorem dX9_findElements_27 : decode cX9_findElements 27 = .ok (.iload_n 2, 1) := by decide +kernel
theorem dX9_findElements_28 : decode cX9_findElements 28 = .ok (.aload_n 0, 1) := by decide +kernel
theorem dX9_findElements_29 : decode cX9_findElements 29 = .ok (.getfield 7, 3) := by decide +kernel
theorem dX9_findElements_32 : decode cX9_findElements 32 = .ok (.iconst 1, 1) := by decide +kernel
theorem dX9_findElements_33 : decode cX9_findElements 33 = .ok (.iaload, 1) := by decide +kernel
theorem dX9_findElements_34 : decode cX9_findElements 34 = .ok (.if_icmp .ge 60, 3) := by decide +kernel
theorem dX9_findElements_37 : decode cX9_findElements 37 = .ok (.aload_n 0, 1) := by decide +kernel
theorem dX9_findElements_38 : decode cX9_findElements 38 = .ok (.aload_n 0, 1) := by decide +kernel
theorem dX9_findElements_39 : decode cX9_findElements 39 = .ok (.getfield 22, 3) := by decide +kernel
theorem dX9_findElements_42 : decode cX9_findElements 42 = .ok (.iload_n 1, 1) := by decide +kernel
theorem dX9_findElements_43 : decode cX9_findElements 43 = .ok (.iaload, 1) := by decide +kernel
theorem dX9_findElements_44 : decode cX9_findElements 44 = .ok (.aload_n 0, 1) := by decide +kernel
theorem dX9_findElements_45 : decode cX9_findElements 45 = .ok (.getfield 7, 3) := by decide +kernel
theorem dX9_findElements_48 : decode cX9_findElements 48 = .ok (.iconst 2, 1) := by decide +kernel
theorem dX9_findElements_49 : decode cX9_findElements 49 = .ok (.iload_n 2, 1) := by decide +kernel
theorem dX9_findElements_50 : decode cX9_findElements 50 = .ok (.iadd, 1) := by decide +kernel
theorem dX9_findElements_51 : decode cX9_findElements 51 = .ok (.iaload, 1) := by decide +kernel
theorem dX9_findElements_52 : decode cX9_findElements 52 = .ok (.invokevirtual 134, 3) := by decide +kernel
theorem dX9_findElements_55 : decode cX9_findElements 55 = .ok (.istore_n 3, 1) := by decide +kernel
theorem dX9_findElements_56 : decode cX9_findElements 56 = .ok (.aload_n 0, 1) := by decide +kernel
theorem dX9_findElements_57 : decode cX9_findElements 57 = .ok (.iload_n 3, 1) := by decide +kernel
theorem dX9_findElements_58 : decode cX9_findElements 58 = .ok (.invokevirtual 137, 3) := by decide +kernel
theorem dX9_findElements_61 : decode cX9_findElements 61 = .ok (.aload_n 0, 1) := by decide +kernel
theorem dX9_findElements_62 : decode cX9_findElements 62 = .ok (.getfield 127, 3) := by decide +kernel
theorem dX9_findElements_65 : decode cX9_findElements 65 = .ok (.if_icmp .ne 23, 3) := by decide +kernel
theorem dX9_findElements_68 : decode cX9_findElements 68 = .ok (.aload_n 0, 1) := by decide +kernel
theorem dX9_findElements_69 : decode cX9_findElements 69 = .ok (.getfield 22, 3) := by decide +kernel
theorem dX9_findElements_72 : decode cX9_findElements 72 = .ok (.aload_n 0, 1) := by decide +kernel
theorem dX9_findElements_73 : decode cX9_findElements 73 = .ok (.getfield 127, 3) := by decide +kernel
theorem dX9_findElements_76 : decode cX9_findElements 76 = .ok (.iload_n 3, 1) := by decide +kernel
theorem dX9_findElements_77 : decode cX9_findElements 77 = .ok (.iastore, 1) := by decide +kernel
theorem dX9_findElements_78 : decode cX9_findElements 78 = .ok (.aload_n 0, 1) := by decide +kernel
theorem dX9_findElements_79 : decode cX9_findElements 79 = .ok (.dup, 1) := by decide +kernel
theorem dX9_findElements_80 : decode cX9_findElements 80 = .ok (.getfield 127, 3) := by decide +kernel
theorem dX9_findElements_83 : decode cX9_findElements 83 = .ok (.iconst 1, 1) := by decide +kernel
theorem dX9_findElements_84 : decode cX9_findElements 84 = .ok (.iadd, 1) := by decide +kernel
theorem dX9_findElements_85 : decode cX9_findElements 85 = .ok (.putfield 127, 3) := by decide +kernel
theorem dX9_findElements_88 : decode cX9_findElements 88 = .ok (.iinc 2 1, 3) := by decide +kernel
theorem dX9_findElements_91 : decode cX9_findElements 91 = .ok (.goto (-64), 3) := by decide +kernel
theorem dX9_findElements_94 : decode cX9_findElements 94 = .ok (.iinc 1 1, 3) := by decide +kernel
theorem dX9_findElements_97 : decode cX9_findElements 97 = .ok (.goto (-80), 3) := by decide +kernel
theorem dX9_findElements_100 : decode cX9_findElements 100 = .ok (.iconst 1, 1) := by decide +kernel
theorem dX9_findElements_101 : decode cX9_findElements 101 = .ok (.istore_n 1, 1) := by decide +kernel
theorem dX9_findElements_102 : decode cX9_findElements 102 = .ok (.iload_n 1, 1) := by decide +kernel
theorem dX9_findElements_103 : decode cX9_findElements 103 = .ok (.aload_n 0, 1) := by decide +kernel
theorem dX9_findElements_104 : decode cX9_findElements 104 = .ok (.getfield 127, 3) := by decide +kernel
theorem dX9_findElements_107 : decode cX9_findElements 107 = .ok (.if_icmp .ge 61, 3) := by decide +kernel
theorem dX9_findElements_110 : decode cX9_findElements 110 = .ok (.aload_n 0, 1) := by decide +kernel
theorem dX9_findElements_111 : decode cX9_findElements 111 = .ok (.getfield 22, 3) := by decide +kernel
theorem dX9_findElements_114 : decode cX9_findElements 114 = .ok (.iload_n 1, 1) := by decide +kernel
theorem dX9_findElements_115 : decode cX9_findElements 115 = .ok (.iaload, 1) := by decide +kernel
theorem dX9_findElements_116 : decode cX9_findElements 116 = .ok (.istore_n 2, 1) := by decide +kernel
theorem dX9_findElements_117 : decode cX9_findElements 117 = .ok (.iload_n 1, 1) := by decide +kernel
theorem dX9_findElements_118 : decode cX9_findElements 118 = .ok (.istore_n 3, 1) := by decide +kernel
theorem dX9_findElements_119 : decode cX9_findElements 119 = .ok (.iload_n 3, 1) := by decide +kernel
theorem dX9_findElements_120 : decode cX9_findElements 120 = .ok (.ifCond .le 35, 3) := by decide +kernel
theorem dX9_findElements_123 : decode cX9_findElements 123 = .ok (.aload_n 0, 1) := by decide +kernel
theorem dX9_findElements_124 : decode cX9_findElements 124 = .ok (.getfield 22, 3) := by decide +kernel
theorem dX9_findElements_127 : decode cX9_findElements 127 = .ok (.iload_n 3, 1) := by decide +kernel
theorem dX9_findElements_128 : decode cX9_findElements 128 = .ok (.iconst 1, 1) := by decide +kernel
theorem dX9_findElements_129 : decode cX9_findElements 129 = .ok (.isub, 1) := by decide +kernel
theorem dX9_findElements_130 : decode cX9_findElements 130 = .ok (.iaload, 1) := by decide +kernel
theorem dX9_findElements_131 : decode cX9_findElements 131 = .ok (.iload_n 2, 1) := by decide +kernel
theorem dX9_findElements_132 : decode cX9_findElements 132 = .ok (.if_icmp .le 23, 3) := by decide +kernel
theorem dX9_findElements_135 : decode cX9_findElements 135 = .ok (.aload_n 0, 1) := by decide +kernel
theorem dX9_findElements_136 : decode cX9_findElements 136 = .ok (.getfield 22, 3) := by decide +kernel
theorem dX9_findElements_139 : decode cX9_findElements 139 = .ok (.iload_n 3, 1) := by decide +kernel
theorem dX9_findElements_140 : decode cX9_findElements 140 = .ok (.aload_n 0, 1) := by decide +kernel
theorem dX9_findElements_141 : decode cX9_findElements 141 = .ok (.getfield 22, 3) := by decide +kernel
theorem dX9_findElements_144 : decode cX9_findElements 144 = .ok (.iload_n 3, 1) := by decide +kernel
theorem dX9_findElements_145 : decode cX9_findElements 145 = .ok (.iconst 1, 1) := by decide +kernel
theorem dX9_findElements_146 : decode cX9_findElements 146 = .ok (.isub, 1) := by decide +kernel
theorem dX9_findElements_147 : decode cX9_findElements 147 = .ok (.iaload, 1) := by decide +kernel
theorem dX9_findElements_148 : decode cX9_findElements 148 = .ok (.iastore, 1) := by decide +kernel
theorem dX9_findElements_149 : decode cX9_findElements 149 = .ok (.iinc 3 (-1), 3) := by decide +kernel
theorem dX9_findElements_152 : decode cX9_findElements 152 = .ok (.goto (-33), 3) := by decide +kernel
theorem dX9_findElements_155 : decode cX9_findElements 155 = .ok (.aload_n 0, 1) := by decide +kernel
theorem dX9_findElements_156 : decode cX9_findElements 156 = .ok (.getfield 22, 3) := by decide +kernel
theorem dX9_findElements_159 : decode cX9_findElements 159 = .ok (.iload_n 3, 1) := by decide +kernel
theorem dX9_findElements_160 : decode cX9_findElements 160 = .ok (.iload_n 2, 1) := by decide +kernel
theorem dX9_findElements_161 : decode cX9_findElements 161 = .ok (.iastore, 1) := by decide +kernel
theorem dX9_findElements_162 : decode cX9_findElements 162 = .ok (.iinc 1 1, 3) := by decide +kernel
theorem dX9_findElements_165 : decode cX9_findElements 165 = .ok (.goto (-63), 3) := by decide +kernel
theorem dX9_findElements_168 : decode cX9_findElements 168 = .ok (.iconst 0, 1) := by decide +kernel
theorem dX9_findElements_169 : decode cX9_findElements 169 = .ok (.istore_n 1, 1) := by decide +kernel
theorem dX9_findElements_170 : decode cX9_findElements 170 = .ok (.iload_n 1, 1) := by decide +kernel
theorem dX9_findElements_171 : decode cX9_findElements 171 = .ok (.aload_n 0, 1) := by decide +kernel
theorem dX9_findElements_172 : decode cX9_findElements 172 = .ok (.getfield 127, 3) := by decide +kernel
theorem dX9_findElements_175 : decode cX9_findElements 175 = .ok (.if_icmp .ge 56, 3) := by decide +kernel
theorem dX9_findElements_178 : decode cX9_findElements 178 = .ok (.iconst 0, 1) := by decide +kernel
theorem dX9_findElements_179 : decode cX9_findElements 179 = .ok (.istore_n 2, 1) := by decide +kernel
theorem dX9_findElements_180 : decode cX9_findElements 180 = .ok (.iload_n 2, 1) := by decide +kernel
theorem dX9_findElements_181 : decode cX9_findElements 181 = .ok (.aload_n 0, 1) := by decide +kernel
theorem dX9_findElements_182 : decode cX9_findElements 182 = .ok (.getfield 127, 3) := by decide +kernel
theorem dX9_findElements_185 : decode cX9_findElements 185 = .ok (.if_icmp .ge 40, 3) := by decide +kernel
theorem dX9_findElements_188 : decode cX9_findElements 188 = .ok (.aload_n 0, 1) := by decide +kernel
theorem dX9_findElements_189 : decode cX9_findElements 189 = .ok (.getfield 25, 3) := by decide +kernel
theorem dX9_findElements_192 : decode cX9_findElements 192 = .ok (.bipush 120, 2) := by decide +kernel
theorem dX9_findElements_194 : decode cX9_findElements 194 = .ok (.iload_n 1, 1) := by decide +kernel
theorem dX9_findElements_195 : decode cX9_findElements 195 = .ok (.imul, 1) := by decide +kernel
theorem dX9_findElements_196 : decode cX9_findElements 196 = .ok (.iload_n 2, 1) := by decide +kernel
theorem dX9_findElements_197 : decode cX9_findElements 197 = .ok (.iadd, 1) := by decide +kernel
theorem dX9_findElements_198 : decode cX9_findElements 198 = .ok (.aload_n 0, 1) := by decide +kernel
theorem dX9_findElements_199 : decode cX9_findElements 199 = .ok (.aload_n 0, 1) := by decide +kernel
theorem dX9_findElements_200 : decode cX9_findElements 200 = .ok (.aload_n 0, 1) := by decide +kernel
theorem dX9_findElements_201 : decode cX9_findElements 201 = .ok (.getfield 22, 3) := by decide +kernel
theorem dX9_findElements_204 : decode cX9_findElements 204 = .ok (.iload_n 1, 1) := by decide +kernel
theorem dX9_findElements_205 : decode cX9_findElements 205 = .ok (.iaload, 1) := by decide +kernel
theorem dX9_findElements_206 : decode cX9_findElements 206 = .ok (.aload_n 0, 1) := by decide +kernel
theorem dX9_findElements_207 : decode cX9_findElements 207 = .ok (.getfield 22, 3) := by decide +kernel
theorem dX9_findElements_210 : decode cX9_findElements 210 = .ok (.iload_n 2, 1) := by decide +kernel
theorem dX9_findElements_211 : decode cX9_findElements 211 = .ok (.iaload, 1) := by decide +kernel
theorem dX9_findElements_212 : decode cX9_findElements 212 = .ok (.invokevirtual 134, 3) := by decide +kernel
theorem dX9_findElements_215 : decode cX9_findElements 215 = .ok (.invokevirtual 137, 3) := by decide +kernel
theorem dX9_findElements_218 : decode cX9_findElements 218 = .ok (.iastore, 1) := by decide +kernel
theorem dX9_findElements_219 : decode cX9_findElements 219 = .ok (.iinc 2 1, 3) := by decide +kernel
theorem dX9_findElements_222 : decode cX9_findElements 222 = .ok (.goto (-42), 3) := by decide +kernel
theorem dX9_findElements_225 : decode cX9_findElements 225 = .ok (.iinc 1 1, 3) := by decide +kernel
theorem dX9_findElements_228 : decode cX9_findElements 228 = .ok (.goto (-58), 3) := by decide +kernel
theorem dX9_findElements_231 : decode cX9_findElements 231 = .ok (.return_, 1) := by decide +kernel
theorem dX9_then_0 : decode cX9_then 0 = .ok (.aload_n 0, 1) := by decide +kernel
theorem dX9_then_1 : decode cX9_then 1 = .ok (.getfield 25, 3) := by decide +kernel
theorem dX9_then_4 : decode cX9_then 4 = .ok (.bipush 120, 2) := by decide +kernel
theorem dX9_then_6 : decode cX9_then 6 = .ok (.iload_n 1, 1) := by decide +kernel
theorem dX9_then_7 : decode cX9_then 7 = .ok (.imul, 1) := by decide +kernel
theorem dX9_then_8 : decode cX9_then 8 = .ok (.iload_n 2, 1) := by decide +kernel
theorem dX9_then_9 : decode cX9_then 9 = .ok (.iadd, 1) := by decide +kernel
theorem dX9_then_10 : decode cX9_then 10 = .ok (.iaload, 1) := by decide +kernel
theorem dX9_then_11 : decode cX9_then 11 = .ok (.ireturn, 1) := by decide +kernel
theorem dX9_findTurns_0 : decode cX9_findTurns 0 = .ok (.iconst 0, 1) := by decide +kernel
theorem dX9_findTurns_1 : decode cX9_findTurns 1 = .ok (.istore_n 1, 1) := by decide +kernel
theorem dX9_findTurns_2 : decode cX9_findTurns 2 = .ok (.iload_n 1, 1) := by decide +kernel
theorem dX9_findTurns_3 : decode cX9_findTurns 3 = .ok (.aload_n 0, 1) := by decide +kernel
theorem dX9_findTurns_4 : decode cX9_findTurns 4 = .ok (.getfield 127, 3) := by decide +kernel
theorem dX9_findTurns_7 : decode cX9_findTurns 7 = .ok (.if_icmp .ge 51, 3) := by decide +kernel
theorem dX9_findTurns_10 : decode cX9_findTurns 10 = .ok (.iconst 1, 1) := by decide +kernel
theorem dX9_findTurns_11 : decode cX9_findTurns 11 = .ok (.istore_n 2, 1) := by decide +kernel
theorem dX9_findTurns_12 : decode cX9_findTurns 12 = .ok (.iload_n 1, 1) := by decide +kernel
theorem dX9_findTurns_13 : decode cX9_findTurns 13 = .ok (.istore_n 3, 1) := by decide +kernel
theorem dX9_findTurns_14 : decode cX9_findTurns 14 = .ok (.iconst 0, 1) := by decide +kernel
theorem dX9_findTurns_15 : decode cX9_findTurns 15 = .ok (.istore 4, 2) := by decide +kernel
theorem dX9_findTurns_17 : decode cX9_findTurns 17 = .ok (.iload_n 3, 1) := by decide +kernel
theorem dX9_findTurns_18 : decode cX9_findTurns 18 = .ok (.ifCond .eq 19, 3) := by decide +kernel
theorem dX9_findTurns_21 : decode cX9_findTurns 21 = .ok (.iload_n 3, 1) := by decide +kernel
theorem dX9_findTurns_22 : decode cX9_findTurns 22 = .ok (.istore 4, 2) := by decide +kernel
theorem dX9_findTurns_24 : decode cX9_findTurns 24 = .ok (.aload_n 0, 1) := by decide +kernel
theorem dX9_findTurns_25 : decode cX9_findTurns 25 = .ok (.iload_n 3, 1) := by decide +kernel
theorem dX9_findTurns_26 : decode cX9_findTurns 26 = .ok (.iload_n 1, 1) := by decide +kernel
theorem dX9_findTurns_27 : decode cX9_findTurns 27 = .ok (.invokevirtual 140, 3) := by decide +kernel
theorem dX9_findTurns_30 : decode cX9_findTurns 30 = .ok (.istore_n 3, 1) := by decide +kernel
theorem dX9_findTurns_31 : decode cX9_findTurns 31 = .ok (.iinc 2 1, 3) := by decide +kernel
theorem dX9_findTurns_34 : decode cX9_findTurns 34 = .ok (.goto (-17), 3) := by decide +kernel
theorem dX9_findTurns_37 : decode cX9_findTurns 37 = .ok (.aload_n 0, 1) := by decide +kernel
theorem dX9_findTurns_38 : decode cX9_findTurns 38 = .ok (.getfield 34, 3) := by decide +kernel
theorem dX9_findTurns_41 : decode cX9_findTurns 41 = .ok (.iload_n 1, 1) := by decide +kernel
theorem dX9_findTurns_42 : decode cX9_findTurns 42 = .ok (.iload_n 2, 1) := by decide +kernel
theorem dX9_findTurns_43 : decode cX9_findTurns 43 = .ok (.iastore, 1) := by decide +kernel
theorem dX9_findTurns_44 : decode cX9_findTurns 44 = .ok (.aload_n 0, 1) := by decide +kernel
theorem dX9_findTurns_45 : decode cX9_findTurns 45 = .ok (.getfield 31, 3) := by decide +kernel
theorem dX9_findTurns_48 : decode cX9_findTurns 48 = .ok (.iload_n 1, 1) := by decide +kernel
theorem dX9_findTurns_49 : decode cX9_findTurns 49 = .ok (.iload 4, 2) := by decide +kernel
theorem dX9_findTurns_51 : decode cX9_findTurns 51 = .ok (.iastore, 1) := by decide +kernel
theorem dX9_findTurns_52 : decode cX9_findTurns 52 = .ok (.iinc 1 1, 3) := by decide +kernel
theorem dX9_findTurns_55 : decode cX9_findTurns 55 = .ok (.goto (-53), 3) := by decide +kernel
theorem dX9_findTurns_58 : decode cX9_findTurns 58 = .ok (.return_, 1) := by decide +kernel
theorem dX9_findSorts_0 : decode cX9_findSorts 0 = .ok (.aload_n 0, 1) := by decide +kernel
theorem dX9_findSorts_1 : decode cX9_findSorts 1 = .ok (.iconst 0, 1) := by decide +kernel
theorem dX9_findSorts_2 : decode cX9_findSorts 2 = .ok (.putfield 143, 3) := by decide +kernel
theorem dX9_findSorts_5 : decode cX9_findSorts 5 = .ok (.iconst 0, 1) := by decide +kernel
theorem dX9_findSorts_6 : decode cX9_findSorts 6 = .ok (.istore_n 1, 1) := by decide +kernel
theorem dX9_findSorts_7 : decode cX9_findSorts 7 = .ok (.iload_n 1, 1) := by decide +kernel
theorem dX9_findSorts_8 : decode cX9_findSorts 8 = .ok (.aload_n 0, 1) := by decide +kernel
theorem dX9_findSorts_9 : decode cX9_findSorts 9 = .ok (.getfield 127, 3) := by decide +kernel
theorem dX9_findSorts_12 : decode cX9_findSorts 12 = .ok (.if_icmp .ge 16, 3) := by decide +kernel
theorem dX9_findSorts_15 : decode cX9_findSorts 15 = .ok (.aload_n 0, 1) := by decide +kernel
theorem dX9_findSorts_16 : decode cX9_findSorts 16 = .ok (.getfield 28, 3) := by decide +kernel
theorem dX9_findSorts_19 : decode cX9_findSorts 19 = .ok (.iload_n 1, 1) := by decide +kernel
theorem dX9_findSorts_20 : decode cX9_findSorts 20 = .ok (.iconst (-1), 1) := by decide +kernel
theorem dX9_findSorts_21 : decode cX9_findSorts 21 = .ok (.iastore, 1) := by decide +kernel
theorem dX9_findSorts_22 : decode cX9_findSorts 22 = .ok (.iinc 1 1, 3) := by decide +kernel
theorem dX9_findSorts_25 : decode cX9_findSorts 25 = .ok (.goto (-18), 3) := by decide +kernel
theorem dX9_findSorts_28 : decode cX9_findSorts 28 = .ok (.iconst 0, 1) := by decide +kernel
theorem dX9_findSorts_29 : decode cX9_findSorts 29 = .ok (.istore_n 1, 1) := by decide +kernel
theorem dX9_findSorts_30 : decode cX9_findSorts 30 = .ok (.iload_n 1, 1) := by decide +kernel
theorem dX9_findSorts_31 : decode cX9_findSorts 31 = .ok (.aload_n 0, 1) := by decide +kernel
theorem dX9_findSorts_32 : decode cX9_findSorts 32 = .ok (.getfield 127, 3) := by decide +kernel
theorem dX9_findSorts_35 : decode cX9_findSorts 35 = .ok (.if_icmp .ge 119, 3) := by decide +kernel
theorem dX9_findSorts_38 : decode cX9_findSorts 38 = .ok (.aload_n 0, 1) := by decide +kernel
theorem dX9_findSorts_39 : decode cX9_findSorts 39 = .ok (.getfield 28, 3) := by decide +kernel
theorem dX9_findSorts_42 : decode cX9_findSorts 42 = .ok (.iload_n 1, 1) := by decide +kernel
theorem dX9_findSorts_43 : decode cX9_findSorts 43 = .ok (.iaload, 1) := by decide +kernel
theorem dX9_findSorts_44 : decode cX9_findSorts 44 = .ok (.iconst (-1), 1) := by decide +kernel
theorem dX9_findSorts_45 : decode cX9_findSorts 45 = .ok (.if_icmp .ne 103, 3) := by decide +kernel
theorem dX9_findSorts_48 : decode cX9_findSorts 48 = .ok (.aload_n 0, 1) := by decide +kernel
theorem dX9_findSorts_49 : decode cX9_findSorts 49 = .ok (.getfield 40, 3) := by decide +kernel
theorem dX9_findSorts_52 : decode cX9_findSorts 52 = .ok (.aload_n 0, 1) := by decide +kernel
theorem dX9_findSorts_53 : decode cX9_findSorts 53 = .ok (.getfield 143, 3) := by decide +kernel
theorem dX9_findSorts_56 : decode cX9_findSorts 56 = .ok (.iload_n 1, 1) := by decide +kernel
theorem dX9_findSorts_57 : decode cX9_findSorts 57 = .ok (.iastore, 1) := by decide +kernel
theorem dX9_findSorts_58 : decode cX9_findSorts 58 = .ok (.aload_n 0, 1) := by decide +kernel
theorem dX9_findSorts_59 : decode cX9_findSorts 59 = .ok (.getfield 37, 3) := by decide +kernel
theorem dX9_findSorts_62 : decode cX9_findSorts 62 = .ok (.aload_n 0, 1) := by decide +kernel
theorem dX9_findSorts_63 : decode cX9_findSorts 63 = .ok (.getfield 143, 3) := by decide +kernel
theorem dX9_findSorts_66 : decode cX9_findSorts 66 = .ok (.iconst 0, 1) := by decide +kernel
theorem dX9_findSorts_67 : decode cX9_findSorts 67 = .ok (.iastore, 1) := by decide +kernel
theorem dX9_findSorts_68 : decode cX9_findSorts 68 = .ok (.iconst 0, 1) := by decide +kernel
theorem dX9_findSorts_69 : decode cX9_findSorts 69 = .ok (.istore_n 2, 1) := by decide +kernel
theorem dX9_findSorts_70 : decode cX9_findSorts 70 = .ok (.iload_n 2, 1) := by decide +kernel
theorem dX9_findSorts_71 : decode cX9_findSorts 71 = .ok (.aload_n 0, 1) := by decide +kernel
theorem dX9_findSorts_72 : decode cX9_findSorts 72 = .ok (.getfield 127, 3) := by decide +kernel
theorem dX9_findSorts_75 : decode cX9_findSorts 75 = .ok (.if_icmp .ge 63, 3) := by decide +kernel
theorem dX9_findSorts_78 : decode cX9_findSorts 78 = .ok (.aload_n 0, 1) := by decide +kernel
theorem dX9_findSorts_79 : decode cX9_findSorts 79 = .ok (.aload_n 0, 1) := by decide +kernel
theorem dX9_findSorts_80 : decode cX9_findSorts 80 = .ok (.iload_n 2, 1) := by decide +kernel
theorem dX9_findSorts_81 : decode cX9_findSorts 81 = .ok (.iload_n 1, 1) := by decide +kernel
theorem dX9_findSorts_82 : decode cX9_findSorts 82 = .ok (.invokevirtual 140, 3) := by decide +kernel
theorem dX9_findSorts_85 : decode cX9_findSorts 85 = .ok (.aload_n 0, 1) := by decide +kernel
theorem dX9_findSorts_86 : decode cX9_findSorts 86 = .ok (.getfield 31, 3) := by decide +kernel
theorem dX9_findSorts_89 : decode cX9_findSorts 89 = .ok (.iload_n 2, 1) := by decide +kernel
theorem dX9_findSorts_90 : decode cX9_findSorts 90 = .ok (.iaload, 1) := by decide +kernel
theorem dX9_findSorts_91 : decode cX9_findSorts 91 = .ok (.invokevirtual 140, 3) := by decide +kernel
theorem dX9_findSorts_94 : decode cX9_findSorts 94 = .ok (.istore_n 3, 1) := by decide +kernel
theorem dX9_findSorts_95 : decode cX9_findSorts 95 = .ok (.aload_n 0, 1) := by decide +kernel
theorem dX9_findSorts_96 : decode cX9_findSorts 96 = .ok (.getfield 37, 3) := by decide +kernel
theorem dX9_findSorts_99 : decode cX9_findSorts 99 = .ok (.aload_n 0, 1) := by decide +kernel
theorem dX9_findSorts_100 : decode cX9_findSorts 100 = .ok (.getfield 143, 3) := by decide +kernel
theorem dX9_findSorts_103 : decode cX9_findSorts 103 = .ok (.dup2, 1) := by decide +kernel
theorem dX9_findSorts_104 : decode cX9_findSorts 104 = .ok (.iaload, 1) := by decide +kernel
theorem dX9_findSorts_105 : decode cX9_findSorts 105 = .ok (.aload_n 0, 1) := by decide +kernel
theorem dX9_findSorts_106 : decode cX9_findSorts 106 = .ok (.getfield 28, 3) := by decide +kernel
theorem dX9_findSorts_109 : decode cX9_findSorts 109 = .ok (.iload_n 3, 1) := by decide +kernel
theorem dX9_findSorts_110 : decode cX9_findSorts 110 = .ok (.iaload, 1) := by decide +kernel
theorem dX9_findSorts_111 : decode cX9_findSorts 111 = .ok (.iconst (-1), 1) := by decide +kernel
theorem dX9_findSorts_112 : decode cX9_findSorts 112 = .ok (.if_icmp .ne 7, 3) := by decide +kernel
theorem dX9_findSorts_115 : decode cX9_findSorts 115 = .ok (.iconst 1, 1) := by decide +kernel
theorem dX9_findSorts_116 : decode cX9_findSorts 116 = .ok (.goto 4, 3) := by decide +kernel
theorem dX9_findSorts_119 : decode cX9_findSorts 119 = .ok (.iconst 0, 1) := by decide +kernel
theorem dX9_findSorts_120 : decode cX9_findSorts 120 = .ok (.iadd, 1) := by decide +kernel
theorem dX9_findSorts_121 : decode cX9_findSorts 121 = .ok (.iastore, 1) := by decide +kernel
theorem dX9_findSorts_122 : decode cX9_findSorts 122 = .ok (.aload_n 0, 1) := by decide +kernel
theorem dX9_findSorts_123 : decode cX9_findSorts 123 = .ok (.getfield 28, 3) := by decide +kernel
theorem dX9_findSorts_126 : decode cX9_findSorts 126 = .ok (.iload_n 3, 1) := by decide +kernel
theorem dX9_findSorts_127 : decode cX9_findSorts 127 = .ok (.aload_n 0, 1) := by decide +kernel
theorem dX9_findSorts_128 : decode cX9_findSorts 128 = .ok (.getfield 143, 3) := by decide +kernel
theorem dX9_findSorts_131 : decode cX9_findSorts 131 = .ok (.iastore, 1) := by decide +kernel
theorem dX9_findSorts_132 : decode cX9_findSorts 132 = .ok (.iinc 2 1, 3) := by decide +kernel
theorem dX9_findSorts_135 : decode cX9_findSorts 135 = .ok (.goto (-65), 3) := by decide +kernel
theorem dX9_findSorts_138 : decode cX9_findSorts 138 = .ok (.aload_n 0, 1) := by decide +kernel
theorem dX9_findSorts_139 : decode cX9_findSorts 139 = .ok (.dup, 1) := by decide +kernel
theorem dX9_findSorts_140 : decode cX9_findSorts 140 = .ok (.getfield 143, 3) := by decide +kernel
theorem dX9_findSorts_143 : decode cX9_findSorts 143 = .ok (.iconst 1, 1) := by decide +kernel
theorem dX9_findSorts_144 : decode cX9_findSorts 144 = .ok (.iadd, 1) := by decide +kernel
theorem dX9_findSorts_145 : decode cX9_findSorts 145 = .ok (.putfield 143, 3) := by decide +kernel
theorem dX9_findSorts_148 : decode cX9_findSorts 148 = .ok (.iinc 1 1, 3) := by decide +kernel
theorem dX9_findSorts_151 : decode cX9_findSorts 151 = .ok (.goto (-121), 3) := by decide +kernel
theorem dX9_findSorts_154 : decode cX9_findSorts 154 = .ok (.return_, 1) := by decide +kernel
theorem dX9_common_0 : decode cX9_common 0 = .ok (.iload_n 0, 1) := by decide +kernel
theorem dX9_common_1 : decode cX9_common 1 = .ok (.istore_n 2, 1) := by decide +kernel
theorem dX9_common_2 : decode cX9_common 2 = .ok (.iload_n 1, 1) := by decide +kernel
theorem dX9_common_3 : decode cX9_common 3 = .ok (.istore_n 3, 1) := by decide +kernel
theorem dX9_common_4 : decode cX9_common 4 = .ok (.iload_n 3, 1) := by decide +kernel
theorem dX9_common_5 : decode cX9_common 5 = .ok (.ifCond .eq 16, 3) := by decide +kernel
theorem dX9_common_8 : decode cX9_common 8 = .ok (.iload_n 2, 1) := by decide +kernel
theorem dX9_common_9 : decode cX9_common 9 = .ok (.iload_n 3, 1) := by decide +kernel
theorem dX9_common_10 : decode cX9_common 10 = .ok (.irem, 1) := by decide +kernel
theorem dX9_common_11 : decode cX9_common 11 = .ok (.istore 4, 2) := by decide +kernel
theorem dX9_common_13 : decode cX9_common 13 = .ok (.iload_n 3, 1) := by decide +kernel
theorem dX9_common_14 : decode cX9_common 14 = .ok (.istore_n 2, 1) := by decide +kernel
theorem dX9_common_15 : decode cX9_common 15 = .ok (.iload 4, 2) := by decide +kernel
theorem dX9_common_17 : decode cX9_common 17 = .ok (.istore_n 3, 1) := by decide +kernel
theorem dX9_common_18 : decode cX9_common 18 = .ok (.goto (-14), 3) := by decide +kernel
theorem dX9_common_21 : decode cX9_common 21 = .ok (.iload_n 2, 1) := by decide +kernel
theorem dX9_common_22 : decode cX9_common 22 = .ok (.ireturn, 1) := by decide +kernel
theorem dX9_isPrime_0 : decode cX9_isPrime 0 = .ok (.iload_n 0, 1) := by decide +kernel
theorem dX9_isPrime_1 : decode cX9_isPrime 1 = .ok (.iconst 1, 1) := by decide +kernel
theorem dX9_isPrime_2 : decode cX9_isPrime 2 = .ok (.if_icmp .le 7, 3) := by decide +kernel
theorem dX9_isPrime_5 : decode cX9_isPrime 5 = .ok (.iconst 1, 1) := by decide +kernel
theorem dX9_isPrime_6 : decode cX9_isPrime 6 = .ok (.goto 4, 3) := by decide +kernel
theorem dX9_isPrime_9 : decode cX9_isPrime 9 = .ok (.iconst 0, 1) := by decide +kernel
theorem dX9_isPrime_10 : decode cX9_isPrime 10 = .ok (.istore_n 1, 1) := by decide +kernel
theorem dX9_isPrime_11 : decode cX9_isPrime 11 = .ok (.iconst 2, 1) := by decide +kernel
theorem dX9_isPrime_12 : decode cX9_isPrime 12 = .ok (.istore_n 2, 1) := by decide +kernel
theorem dX9_isPrime_13 : decode cX9_isPrime 13 = .ok (.iload_n 2, 1) := by decide +kernel
theorem dX9_isPrime_14 : decode cX9_isPrime 14 = .ok (.iload_n 2, 1) := by decide +kernel
theorem dX9_isPrime_15 : decode cX9_isPrime 15 = .ok (.imul, 1) := by decide +kernel
theorem dX9_isPrime_16 : decode cX9_isPrime 16 = .ok (.iload_n 0, 1) := by decide +kernel
theorem dX9_isPrime_17 : decode cX9_isPrime 17 = .ok (.if_icmp .gt 25, 3) := by decide +kernel
theorem dX9_isPrime_20 : decode cX9_isPrime 20 = .ok (.iload_n 1, 1) := by decide +kernel
theorem dX9_isPrime_21 : decode cX9_isPrime 21 = .ok (.ifCond .eq 21, 3) := by decide +kernel
theorem dX9_isPrime_24 : decode cX9_isPrime 24 = .ok (.iload_n 0, 1) := by decide +kernel
theorem dX9_isPrime_25 : decode cX9_isPrime 25 = .ok (.iload_n 2, 1) := by decide +kernel
theorem dX9_isPrime_26 : decode cX9_isPrime 26 = .ok (.irem, 1) := by decide +kernel
theorem dX9_isPrime_27 : decode cX9_isPrime 27 = .ok (.ifCond .eq 7, 3) := by decide +kernel
theorem dX9_isPrime_30 : decode cX9_isPrime 30 = .ok (.iconst 1, 1) := by decide +kernel
theorem dX9_isPrime_31 : decode cX9_isPrime 31 = .ok (.goto 4, 3) := by decide +kernel
theorem dX9_isPrime_34 : decode cX9_isPrime 34 = .ok (.iconst 0, 1) := by decide +kernel
theorem dX9_isPrime_35 : decode cX9_isPrime 35 = .ok (.istore_n 1, 1) := by decide +kernel
theorem dX9_isPrime_36 : decode cX9_isPrime 36 = .ok (.iinc 2 1, 3) := by decide +kernel
theorem dX9_isPrime_39 : decode cX9_isPrime 39 = .ok (.goto (-26), 3) := by decide +kernel
theorem dX9_isPrime_42 : decode cX9_isPrime 42 = .ok (.iload_n 1, 1) := by decide +kernel
theorem dX9_isPrime_43 : decode cX9_isPrime 43 = .ok (.ireturn, 1) := by decide +kernel
theorem dX9_power_0 : decode cX9_power 0 = .ok (.iconst 1, 1) := by decide +kernel
theorem dX9_power_1 : decode cX9_power 1 = .ok (.istore_n 3, 1) := by decide +kernel
theorem dX9_power_2 : decode cX9_power 2 = .ok (.iconst 0, 1) := by decide +kernel
theorem dX9_power_3 : decode cX9_power 3 = .ok (.istore 4, 2) := by decide +kernel
theorem dX9_power_5 : decode cX9_power 5 = .ok (.iload 4, 2) := by decide +kernel
theorem dX9_power_7 : decode cX9_power 7 = .ok (.iload_n 2, 1) := by decide +kernel
theorem dX9_power_8 : decode cX9_power 8 = .ok (.if_icmp .ge 18, 3) := by decide +kernel
theorem dX9_power_11 : decode cX9_power 11 = .ok (.iload_n 3, 1) := by decide +kernel
theorem dX9_power_12 : decode cX9_power 12 = .ok (.iload_n 1, 1) := by decide +kernel
theorem dX9_power_13 : decode cX9_power 13 = .ok (.imul, 1) := by decide +kernel
theorem dX9_power_14 : decode cX9_power 14 = .ok (.aload_n 0, 1) := by decide +kernel
theorem dX9_power_15 : decode cX9_power 15 = .ok (.getfield 146, 3) := by decide +kernel
theorem dX9_power_18 : decode cX9_power 18 = .ok (.irem, 1) := by decide +kernel
theorem dX9_power_19 : decode cX9_power 19 = .ok (.istore_n 3, 1) := by decide +kernel
theorem dX9_power_20 : decode cX9_power 20 = .ok (.iinc 4 1, 3) := by decide +kernel
theorem dX9_power_23 : decode cX9_power 23 = .ok (.goto (-18), 3) := by decide +kernel
theorem dX9_power_26 : decode cX9_power 26 = .ok (.iload_n 3, 1) := by decide +kernel
theorem dX9_power_27 : decode cX9_power 27 = .ok (.ireturn, 1) := by decide +kernel
theorem dX9_round_0 : decode cX9_round 0 = .ok (.iconst 1, 1) := by decide +kernel
theorem dX9_round_1 : decode cX9_round 1 = .ok (.istore_n 2, 1) := by decide +kernel
theorem dX9_round_2 : decode cX9_round 2 = .ok (.iload_n 1, 1) := by decide +kernel
theorem dX9_round_3 : decode cX9_round 3 = .ok (.istore_n 3, 1) := by decide +kernel
theorem dX9_round_4 : decode cX9_round 4 = .ok (.iload_n 3, 1) := by decide +kernel
theorem dX9_round_5 : decode cX9_round 5 = .ok (.iconst 1, 1) := by decide +kernel
theorem dX9_round_6 : decode cX9_round 6 = .ok (.if_icmp .eq 18, 3) := by decide +kernel
theorem dX9_round_9 : decode cX9_round 9 = .ok (.iload_n 3, 1) := by decide +kernel
theorem dX9_round_10 : decode cX9_round 10 = .ok (.iload_n 1, 1) := by decide +kernel
theorem dX9_round_11 : decode cX9_round 11 = .ok (.imul, 1) := by decide +kernel
theorem dX9_round_12 : decode cX9_round 12 = .ok (.aload_n 0, 1) := by decide +kernel
theorem dX9_round_13 : decode cX9_round 13 = .ok (.getfield 146, 3) := by decide +kernel
theorem dX9_round_16 : decode cX9_round 16 = .ok (.irem, 1) := by decide +kernel
theorem dX9_round_17 : decode cX9_round 17 = .ok (.istore_n 3, 1) := by decide +kernel
theorem dX9_round_18 : decode cX9_round 18 = .ok (.iinc 2 1, 3) := by decide +kernel
theorem dX9_round_21 : decode cX9_round 21 = .ok (.goto (-17), 3) := by decide +kernel
theorem dX9_round_24 : decode cX9_round 24 = .ok (.iload_n 2, 1) := by decide +kernel
theorem dX9_round_25 : decode cX9_round 25 = .ok (.ireturn, 1) := by decide +kernel
theorem dX9_findPrime_0 : decode cX9_findPrime 0 = .ok (.aload_n 0, 1) := by decide +kernel
theorem dX9_findPrime_1 : decode cX9_findPrime 1 = .ok (.iconst 1, 1) := by decide +kernel
theorem dX9_findPrime_2 : decode cX9_findPrime 2 = .ok (.putfield 149, 3) := by decide +kernel
theorem dX9_findPrime_5 : decode cX9_findPrime 5 = .ok (.iconst 0, 1) := by decide +kernel
theorem dX9_findPrime_6 : decode cX9_findPrime 6 = .ok (.istore_n 1, 1) := by decide +kernel
theorem dX9_findPrime_7 : decode cX9_findPrime 7 = .ok (.iload_n 1, 1) := by decide +kernel
theorem dX9_findPrime_8 : decode cX9_findPrime 8 = .ok (.aload_n 0, 1) := by decide +kernel
theorem dX9_findPrime_9 : decode cX9_findPrime 9 = .ok (.getfield 143, 3) := by decide +kernel
theorem dX9_findPrime_12 : decode cX9_findPrime 12 = .ok (.if_icmp .ge 40, 3) := by decide +kernel
theorem dX9_findPrime_15 : decode cX9_findPrime 15 = .ok (.aload_n 0, 1) := by decide +kernel
theorem dX9_findPrime_16 : decode cX9_findPrime 16 = .ok (.getfield 34, 3) := by decide +kernel
theorem dX9_findPrime_19 : decode cX9_findPrime 19 = .ok (.aload_n 0, 1) := by decide +kernel
theorem dX9_findPrime_20 : decode cX9_findPrime 20 = .ok (.getfield 40, 3) := by decide +kernel
theorem dX9_findPrime_23 : decode cX9_findPrime 23 = .ok (.iload_n 1, 1) := by decide +kernel
theorem dX9_findPrime_24 : decode cX9_findPrime 24 = .ok (.iaload, 1) := by decide +kernel
theorem dX9_findPrime_25 : decode cX9_findPrime 25 = .ok (.iaload, 1) := by decide +kernel
theorem dX9_findPrime_26 : decode cX9_findPrime 26 = .ok (.istore_n 2, 1) := by decide +kernel
theorem dX9_findPrime_27 : decode cX9_findPrime 27 = .ok (.aload_n 0, 1) := by decide +kernel
theorem dX9_findPrime_28 : decode cX9_findPrime 28 = .ok (.aload_n 0, 1) := by decide +kernel
theorem dX9_findPrime_29 : decode cX9_findPrime 29 = .ok (.getfield 149, 3) := by decide +kernel
theorem dX9_findPrime_32 : decode cX9_findPrime 32 = .ok (.aload_n 0, 1) := by decide +kernel
theorem dX9_findPrime_33 : decode cX9_findPrime 33 = .ok (.getfield 149, 3) := by decide +kernel
theorem dX9_findPrime_36 : decode cX9_findPrime 36 = .ok (.iload_n 2, 1) := by decide +kernel
theorem dX9_findPrime_37 : decode cX9_findPrime 37 = .ok (.invokestatic 152, 3) := by decide +kernel
theorem dX9_findPrime_40 : decode cX9_findPrime 40 = .ok (.idiv, 1) := by decide +kernel
theorem dX9_findPrime_41 : decode cX9_findPrime 41 = .ok (.iload_n 2, 1) := by decide +kernel
theorem dX9_findPrime_42 : decode cX9_findPrime 42 = .ok (.imul, 1) := by decide +kernel
theorem dX9_findPrime_43 : decode cX9_findPrime 43 = .ok (.putfield 149, 3) := by decide +kernel
theorem dX9_findPrime_46 : decode cX9_findPrime 46 = .ok (.iinc 1 1, 3) := by decide +kernel
theorem dX9_findPrime_49 : decode cX9_findPrime 49 = .ok (.goto (-42), 3) := by decide +kernel
theorem dX9_findPrime_52 : decode cX9_findPrime 52 = .ok (.aload_n 0, 1) := by decide +kernel
theorem dX9_findPrime_53 : decode cX9_findPrime 53 = .ok (.bipush 8, 2) := by decide +kernel
theorem dX9_findPrime_55 : decode cX9_findPrime 55 = .ok (.putfield 146, 3) := by decide +kernel
theorem dX9_findPrime_58 : decode cX9_findPrime 58 = .ok (.aload_n 0, 1) := by decide +kernel
theorem dX9_findPrime_59 : decode cX9_findPrime 59 = .ok (.getfield 146, 3) := by decide +kernel
theorem dX9_findPrime_62 : decode cX9_findPrime 62 = .ok (.invokestatic 155, 3) := by decide +kernel
theorem dX9_findPrime_65 : decode cX9_findPrime 65 = .ok (.ifCond .eq 35, 3) := by decide +kernel
theorem dX9_findPrime_68 : decode cX9_findPrime 68 = .ok (.aload_n 0, 1) := by decide +kernel
theorem dX9_findPrime_69 : decode cX9_findPrime 69 = .ok (.getfield 146, 3) := by decide +kernel
theorem dX9_findPrime_72 : decode cX9_findPrime 72 = .ok (.aload_n 0, 1) := by decide +kernel
theorem dX9_findPrime_73 : decode cX9_findPrime 73 = .ok (.getfield 146, 3) := by decide +kernel
theorem dX9_findPrime_76 : decode cX9_findPrime 76 = .ok (.imul, 1) := by decide +kernel
theorem dX9_findPrime_77 : decode cX9_findPrime 77 = .ok (.iconst 4, 1) := by decide +kernel
theorem dX9_findPrime_78 : decode cX9_findPrime 78 = .ok (.aload_n 0, 1) := by decide +kernel
theorem dX9_findPrime_79 : decode cX9_findPrime 79 = .ok (.getfield 127, 3) := by decide +kernel
theorem dX9_findPrime_82 : decode cX9_findPrime 82 = .ok (.imul, 1) := by decide +kernel
theorem dX9_findPrime_83 : decode cX9_findPrime 83 = .ok (.if_icmp .le 17, 3) := by decide +kernel
theorem dX9_findPrime_86 : decode cX9_findPrime 86 = .ok (.aload_n 0, 1) := by decide +kernel
theorem dX9_findPrime_87 : decode cX9_findPrime 87 = .ok (.getfield 146, 3) := by decide +kernel
theorem dX9_findPrime_90 : decode cX9_findPrime 90 = .ok (.iconst 1, 1) := by decide +kernel
theorem dX9_findPrime_91 : decode cX9_findPrime 91 = .ok (.isub, 1) := by decide +kernel
theorem dX9_findPrime_92 : decode cX9_findPrime 92 = .ok (.aload_n 0, 1) := by decide +kernel
theorem dX9_findPrime_93 : decode cX9_findPrime 93 = .ok (.getfield 149, 3) := by decide +kernel
theorem dX9_findPrime_96 : decode cX9_findPrime 96 = .ok (.irem, 1) := by decide +kernel
theorem dX9_findPrime_97 : decode cX9_findPrime 97 = .ok (.ifCond .eq 16, 3) := by decide +kernel
theorem dX9_findPrime_100 : decode cX9_findPrime 100 = .ok (.aload_n 0, 1) := by decide +kernel
theorem dX9_findPrime_101 : decode cX9_findPrime 101 = .ok (.dup, 1) := by decide +kernel
theorem dX9_findPrime_102 : decode cX9_findPrime 102 = .ok (.getfield 146, 3) := by decide +kernel
theorem dX9_findPrime_105 : decode cX9_findPrime 105 = .ok (.iconst 1, 1) := by decide +kernel
theorem dX9_findPrime_106 : decode cX9_findPrime 106 = .ok (.iadd, 1) := by decide +kernel
theorem dX9_findPrime_107 : decode cX9_findPrime 107 = .ok (.putfield 146, 3) := by decide +kernel
theorem dX9_findPrime_110 : decode cX9_findPrime 110 = .ok (.goto (-52), 3) := by decide +kernel
theorem dX9_findPrime_113 : decode cX9_findPrime 113 = .ok (.iconst 1, 1) := by decide +kernel
theorem dX9_findPrime_114 : decode cX9_findPrime 114 = .ok (.istore_n 1, 1) := by decide +kernel
theorem dX9_findPrime_115 : decode cX9_findPrime 115 = .ok (.aload_n 0, 1) := by decide +kernel
theorem dX9_findPrime_116 : decode cX9_findPrime 116 = .ok (.iload_n 1, 1) := by decide +kernel
theorem dX9_findPrime_117 : decode cX9_findPrime 117 = .ok (.invokevirtual 158, 3) := by decide +kernel
theorem dX9_findPrime_120 : decode cX9_findPrime 120 = .ok (.aload_n 0, 1) := by decide +kernel
theorem dX9_findPrime_121 : decode cX9_findPrime 121 = .ok (.getfield 146, 3) := by decide +kernel
theorem dX9_findPrime_124 : decode cX9_findPrime 124 = .ok (.iconst 1, 1) := by decide +kernel
theorem dX9_findPrime_125 : decode cX9_findPrime 125 = .ok (.isub, 1) := by decide +kernel
theorem dX9_findPrime_126 : decode cX9_findPrime 126 = .ok (.if_icmp .eq 9, 3) := by decide +kernel
theorem dX9_findPrime_129 : decode cX9_findPrime 129 = .ok (.iinc 1 1, 3) := by decide +kernel
theorem dX9_findPrime_132 : decode cX9_findPrime 132 = .ok (.goto (-17), 3) := by decide +kernel
theorem dX9_findPrime_135 : decode cX9_findPrime 135 = .ok (.aload_n 0, 1) := by decide +kernel
theorem dX9_findPrime_136 : decode cX9_findPrime 136 = .ok (.aload_n 0, 1) := by decide +kernel
theorem dX9_findPrime_137 : decode cX9_findPrime 137 = .ok (.iload_n 1, 1) := by decide +kernel
theorem dX9_findPrime_138 : decode cX9_findPrime 138 = .ok (.aload_n 0, 1) := by decide +kernel
theorem dX9_findPrime_139 : decode cX9_findPrime 139 = .ok (.getfield 146, 3) := by decide +kernel
theorem dX9_findPrime_142 : decode cX9_findPrime 142 = .ok (.iconst 1, 1) := by decide +kernel
theorem dX9_findPrime_143 : decode cX9_findPrime 143 = .ok (.isub, 1) := by decide +kernel
theorem dX9_findPrime_144 : decode cX9_findPrime 144 = .ok (.aload_n 0, 1) := by decide +kernel
theorem dX9_findPrime_145 : decode cX9_findPrime 145 = .ok (.getfield 149, 3) := by decide +kernel
theorem dX9_findPrime_148 : decode cX9_findPrime 148 = .ok (.idiv, 1) := by decide +kernel
theorem dX9_findPrime_149 : decode cX9_findPrime 149 = .ok (.invokevirtual 161, 3) := by decide +kernel
theorem dX9_findPrime_152 : decode cX9_findPrime 152 = .ok (.putfield 164, 3) := by decide +kernel
theorem dX9_findPrime_155 : decode cX9_findPrime 155 = .ok (.return_, 1) := by decide +kernel
theorem dX9_findTimes_0 : decode cX9_findTimes 0 = .ok (.iconst 0, 1) := by decide +kernel
theorem dX9_findTimes_1 : decode cX9_findTimes 1 = .ok (.istore_n 1, 1) := by decide +kernel
theorem dX9_findTimes_2 : decode cX9_findTimes 2 = .ok (.iload_n 1, 1) := by decide +kernel
theorem dX9_findTimes_3 : decode cX9_findTimes 3 = .ok (.sipush 512, 3) := by decide +kernel
theorem dX9_findTimes_6 : decode cX9_findTimes 6 = .ok (.if_icmp .ge 16, 3) := by decide +kernel
theorem dX9_findTimes_9 : decode cX9_findTimes 9 = .ok (.aload_n 0, 1) := by decide +kernel
theorem dX9_findTimes_10 : decode cX9_findTimes 10 = .ok (.getfield 43, 3) := by decide +kernel
theorem dX9_findTimes_13 : decode cX9_findTimes 13 = .ok (.iload_n 1, 1) := by decide +kernel
theorem dX9_findTimes_14 : decode cX9_findTimes 14 = .ok (.iconst 0, 1) := by decide +kernel
theorem dX9_findTimes_15 : decode cX9_findTimes 15 = .ok (.iastore, 1) := by decide +kernel
theorem dX9_findTimes_16 : decode cX9_findTimes 16 = .ok (.iinc 1 1, 3) := by decide +kernel
theorem dX9_findTimes_19 : decode cX9_findTimes 19 = .ok (.goto (-17), 3) := by decide +kernel
theorem dX9_findTimes_22 : decode cX9_findTimes 22 = .ok (.iconst 0, 1) := by decide +kernel
theorem dX9_findTimes_23 : decode cX9_findTimes 23 = .ok (.istore_n 1, 1) := by decide +kernel
theorem dX9_findTimes_24 : decode cX9_findTimes 24 = .ok (.iload_n 1, 1) := by decide +kernel
theorem dX9_findTimes_25 : decode cX9_findTimes 25 = .ok (.aload_n 0, 1) := by decide +kernel
theorem dX9_findTimes_26 : decode cX9_findTimes 26 = .ok (.getfield 127, 3) := by decide +kernel
theorem dX9_findTimes_29 : decode cX9_findTimes 29 = .ok (.if_icmp .ge 82, 3) := by decide +kernel
theorem dX9_findTimes_32 : decode cX9_findTimes 32 = .ok (.iconst 0, 1) := by decide +kernel
theorem dX9_findTimes_33 : decode cX9_findTimes 33 = .ok (.istore_n 2, 1) := by decide +kernel
theorem dX9_findTimes_34 : decode cX9_findTimes 34 = .ok (.iload_n 2, 1) := by decide +kernel
theorem dX9_findTimes_35 : decode cX9_findTimes 35 = .ok (.aload_n 0, 1) := by decide +kernel
theorem dX9_findTimes_36 : decode cX9_findTimes 36 = .ok (.getfield 127, 3) := by decide +kernel
theorem dX9_findTimes_39 : decode cX9_findTimes 39 = .ok (.if_icmp .ge 66, 3) := by decide +kernel
theorem dX9_findTimes_42 : decode cX9_findTimes 42 = .ok (.aload_n 0, 1) := by decide +kernel
theorem dX9_findTimes_43 : decode cX9_findTimes 43 = .ok (.getfield 28, 3) := by decide +kernel
theorem dX9_findTimes_46 : decode cX9_findTimes 46 = .ok (.aload_n 0, 1) := by decide +kernel
theorem dX9_findTimes_47 : decode cX9_findTimes 47 = .ok (.iload_n 1, 1) := by decide +kernel
theorem dX9_findTimes_48 : decode cX9_findTimes 48 = .ok (.iload_n 2, 1) := by decide +kernel
theorem dX9_findTimes_49 : decode cX9_findTimes 49 = .ok (.invokevirtual 140, 3) := by decide +kernel
theorem dX9_findTimes_52 : decode cX9_findTimes 52 = .ok (.iaload, 1) := by decide +kernel
theorem dX9_findTimes_53 : decode cX9_findTimes 53 = .ok (.istore_n 3, 1) := by decide +kernel
theorem dX9_findTimes_54 : decode cX9_findTimes 54 = .ok (.aload_n 0, 1) := by decide +kernel
theorem dX9_findTimes_55 : decode cX9_findTimes 55 = .ok (.getfield 40, 3) := by decide +kernel
theorem dX9_findTimes_58 : decode cX9_findTimes 58 = .ok (.iload_n 3, 1) := by decide +kernel
theorem dX9_findTimes_59 : decode cX9_findTimes 59 = .ok (.iaload, 1) := by decide +kernel
theorem dX9_findTimes_60 : decode cX9_findTimes 60 = .ok (.aload_n 0, 1) := by decide +kernel
theorem dX9_findTimes_61 : decode cX9_findTimes 61 = .ok (.iload_n 1, 1) := by decide +kernel
theorem dX9_findTimes_62 : decode cX9_findTimes 62 = .ok (.iload_n 2, 1) := by decide +kernel
theorem dX9_findTimes_63 : decode cX9_findTimes 63 = .ok (.invokevirtual 140, 3) := by decide +kernel
theorem dX9_findTimes_66 : decode cX9_findTimes 66 = .ok (.if_icmp .ne 33, 3) := by decide +kernel
theorem dX9_findTimes_69 : decode cX9_findTimes 69 = .ok (.aload_n 0, 1) := by decide +kernel
theorem dX9_findTimes_70 : decode cX9_findTimes 70 = .ok (.getfield 43, 3) := by decide +kernel
theorem dX9_findTimes_73 : decode cX9_findTimes 73 = .ok (.bipush 64, 2) := by decide +kernel
theorem dX9_findTimes_75 : decode cX9_findTimes 75 = .ok (.aload_n 0, 1) := by decide +kernel
theorem dX9_findTimes_76 : decode cX9_findTimes 76 = .ok (.getfield 28, 3) := by decide +kernel
theorem dX9_findTimes_79 : decode cX9_findTimes 79 = .ok (.iload_n 1, 1) := by decide +kernel
theorem dX9_findTimes_80 : decode cX9_findTimes 80 = .ok (.iaload, 1) := by decide +kernel
theorem dX9_findTimes_81 : decode cX9_findTimes 81 = .ok (.imul, 1) := by decide +kernel
theorem dX9_findTimes_82 : decode cX9_findTimes 82 = .ok (.bipush 8, 2) := by decide +kernel
theorem dX9_findTimes_84 : decode cX9_findTimes 84 = .ok (.aload_n 0, 1) := by decide +kernel
theorem dX9_findTimes_85 : decode cX9_findTimes 85 = .ok (.getfield 28, 3) := by decide +kernel
theorem dX9_findTimes_88 : decode cX9_findTimes 88 = .ok (.iload_n 2, 1) := by decide +kernel
theorem dX9_findTimes_89 : decode cX9_findTimes 89 = .ok (.iaload, 1) := by decide +kernel
theorem dX9_findTimes_90 : decode cX9_findTimes 90 = .ok (.imul, 1) := by decide +kernel
theorem dX9_findTimes_91 : decode cX9_findTimes 91 = .ok (.iadd, 1) := by decide +kernel
theorem dX9_findTimes_92 : decode cX9_findTimes 92 = .ok (.iload_n 3, 1) := by decide +kernel
theorem dX9_findTimes_93 : decode cX9_findTimes 93 = .ok (.iadd, 1) := by decide +kernel
theorem dX9_findTimes_94 : decode cX9_findTimes 94 = .ok (.dup2, 1) := by decide +kernel
theorem dX9_findTimes_95 : decode cX9_findTimes 95 = .ok (.iaload, 1) := by decide +kernel
theorem dX9_findTimes_96 : decode cX9_findTimes 96 = .ok (.iconst 1, 1) := by decide +kernel
theorem dX9_findTimes_97 : decode cX9_findTimes 97 = .ok (.iadd, 1) := by decide +kernel
theorem dX9_findTimes_98 : decode cX9_findTimes 98 = .ok (.iastore, 1) := by decide +kernel
theorem dX9_findTimes_99 : decode cX9_findTimes 99 = .ok (.iinc 2 1, 3) := by decide +kernel
theorem dX9_findTimes_102 : decode cX9_findTimes 102 = .ok (.goto (-68), 3) := by decide +kernel
theorem dX9_findTimes_105 : decode cX9_findTimes 105 = .ok (.iinc 1 1, 3) := by decide +kernel
theorem dX9_findTimes_108 : decode cX9_findTimes 108 = .ok (.goto (-84), 3) := by decide +kernel
theorem dX9_findTimes_111 : decode cX9_findTimes 111 = .ok (.return_, 1) := by decide +kernel
theorem dX9_lay_0 : decode cX9_lay 0 = .ok (.aload_n 0, 1) := by decide +kernel
theorem dX9_lay_1 : decode cX9_lay 1 = .ok (.getfield 96, 3) := by decide +kernel
theorem dX9_lay_4 : decode cX9_lay 4 = .ok (.ifCond .eq 4, 3) := by decide +kernel
theorem dX9_lay_7 : decode cX9_lay 7 = .ok (.return_, 1) := by decide +kernel
theorem dX9_lay_8 : decode cX9_lay 8 = .ok (.aload_n 0, 1) := by decide +kernel
theorem dX9_lay_9 : decode cX9_lay 9 = .ok (.iconst 1, 1) := by decide +kernel
theorem dX9_lay_10 : decode cX9_lay 10 = .ok (.putfield 96, 3) := by decide +kernel
theorem dX9_lay_13 : decode cX9_lay 13 = .ok (.aload_n 0, 1) := by decide +kernel
theorem dX9_lay_14 : decode cX9_lay 14 = .ok (.invokevirtual 167, 3) := by decide +kernel
theorem dX9_lay_17 : decode cX9_lay 17 = .ok (.aload_n 0, 1) := by decide +kernel
theorem dX9_lay_18 : decode cX9_lay 18 = .ok (.invokevirtual 170, 3) := by decide +kernel
theorem dX9_lay_21 : decode cX9_lay 21 = .ok (.aload_n 0, 1) := by decide +kernel
theorem dX9_lay_22 : decode cX9_lay 22 = .ok (.invokevirtual 173, 3) := by decide +kernel
theorem dX9_lay_25 : decode cX9_lay 25 = .ok (.aload_n 0, 1) := by decide +kernel
theorem dX9_lay_26 : decode cX9_lay 26 = .ok (.invokevirtual 176, 3) := by decide +kernel
theorem dX9_lay_29 : decode cX9_lay 29 = .ok (.aload_n 0, 1) := by decide +kernel
theorem dX9_lay_30 : decode cX9_lay 30 = .ok (.invokevirtual 179, 3) := by decide +kernel
theorem dX9_lay_33 : decode cX9_lay 33 = .ok (.aload_n 0, 1) := by decide +kernel
theorem dX9_lay_34 : decode cX9_lay 34 = .ok (.invokevirtual 182, 3) := by decide +kernel
theorem dX9_lay_37 : decode cX9_lay 37 = .ok (.aload_n 0, 1) := by decide +kernel
theorem dX9_lay_38 : decode cX9_lay 38 = .ok (.invokevirtual 185, 3) := by decide +kernel
theorem dX9_lay_41 : decode cX9_lay 41 = .ok (.return_, 1) := by decide +kernel
theorem dX9_over_0 : decode cX9_over 0 = .ok (.iload_n 1, 1) := by decide +kernel
theorem dX9_over_1 : decode cX9_over 1 = .ok (.aload_n 0, 1) := by decide +kernel
theorem dX9_over_2 : decode cX9_over 2 = .ok (.getfield 146, 3) := by decide +kernel
theorem dX9_over_5 : decode cX9_over 5 = .ok (.irem, 1) := by decide +kernel
theorem dX9_over_6 : decode cX9_over 6 = .ok (.istore_n 2, 1) := by decide +kernel
theorem dX9_over_7 : decode cX9_over 7 = .ok (.iload_n 2, 1) := by decide +kernel
theorem dX9_over_8 : decode cX9_over 8 = .ok (.ifCond .ge 12, 3) := by decide +kernel
theorem dX9_over_11 : decode cX9_over 11 = .ok (.iload_n 2, 1) := by decide +kernel
theorem dX9_over_12 : decode cX9_over 12 = .ok (.aload_n 0, 1) := by decide +kernel
theorem dX9_over_13 : decode cX9_over 13 = .ok (.getfield 146, 3) := by decide +kernel
theorem dX9_over_16 : decode cX9_over 16 = .ok (.iadd, 1) := by decide +kernel
theorem dX9_over_17 : decode cX9_over 17 = .ok (.goto 4, 3) := by decide +kernel
theorem dX9_over_20 : decode cX9_over 20 = .ok (.iload_n 2, 1) := by decide +kernel
theorem dX9_over_21 : decode cX9_over 21 = .ok (.ireturn, 1) := by decide +kernel
theorem dX9_by_0 : decode cX9_by 0 = .ok (.iconst 0, 1) := by decide +kernel
theorem dX9_by_1 : decode cX9_by 1 = .ok (.istore_n 3, 1) := by decide +kernel
theorem dX9_by_2 : decode cX9_by 2 = .ok (.aload_n 0, 1) := by decide +kernel
theorem dX9_by_3 : decode cX9_by 3 = .ok (.iload_n 3, 1) := by decide +kernel
theorem dX9_by_4 : decode cX9_by 4 = .ok (.iload_n 2, 1) := by decide +kernel
theorem dX9_by_5 : decode cX9_by 5 = .ok (.imul, 1) := by decide +kernel
theorem dX9_by_6 : decode cX9_by 6 = .ok (.invokevirtual 188, 3) := by decide +kernel
theorem dX9_by_9 : decode cX9_by 9 = .ok (.aload_n 0, 1) := by decide +kernel
