theorem dX2_init_0 : decode cX2_init 0 = .ok (.aload_n 0, 1) := by decide +kernel
theorem dX2_init_1 : decode cX2_init 1 = .ok (.invokespecial 3, 3) := by decide +kernel
theorem dX2_init_4 : decode cX2_init 4 = .ok (.aload_n 0, 1) := by decide +kernel
theorem dX2_init_5 : decode cX2_init 5 = .ok (.bipush 61, 2) := by decide +kernel
theorem dX2_init_7 : decode cX2_init 7 = .ok (.putfield 9, 3) := by decide +kernel
theorem dX2_init_10 : decode cX2_init 10 = .ok (.aload_n 0, 1) := by decide +kernel
theorem dX2_init_11 : decode cX2_init 11 = .ok (.iconst 1, 1) := by decide +kernel
theorem dX2_init_12 : decode cX2_init 12 = .ok (.putfield 15, 3) := by decide +kernel
theorem dX2_init_15 : decode cX2_init 15 = .ok (.aload_n 0, 1) := by decide +kernel
theorem dX2_init_16 : decode cX2_init 16 = .ok (.bipush 61, 2) := by decide +kernel
theorem dX2_init_18 : decode cX2_init 18 = .ok (.newarray .int, 2) := by decide +kernel
theorem dX2_init_20 : decode cX2_init 20 = .ok (.putfield 18, 3) := by decide +kernel
theorem dX2_init_23 : decode cX2_init 23 = .ok (.aload_n 0, 1) := by decide +kernel
theorem dX2_init_24 : decode cX2_init 24 = .ok (.bipush 61, 2) := by decide +kernel
theorem dX2_init_26 : decode cX2_init 26 = .ok (.newarray .int, 2) := by decide +kernel
theorem dX2_init_28 : decode cX2_init 28 = .ok (.putfield 22, 3) := by decide +kernel
theorem dX2_init_31 : decode cX2_init 31 = .ok (.return_, 1) := by decide +kernel
theorem dX2_choose_0 : decode cX2_choose 0 = .ok (.iconst 1, 1) := by decide +kernel
theorem dX2_choose_1 : decode cX2_choose 1 = .ok (.iload_n 2, 1) := by decide +kernel
theorem dX2_choose_2 : decode cX2_choose 2 = .ok (.invokestatic 25, 3) := by decide +kernel
theorem dX2_choose_5 : decode cX2_choose 5 = .ok (.istore_n 3, 1) := by decide +kernel
theorem dX2_choose_6 : decode cX2_choose 6 = .ok (.aload_n 0, 1) := by decide +kernel
theorem dX2_choose_7 : decode cX2_choose 7 = .ok (.bipush 61, 2) := by decide +kernel
theorem dX2_choose_9 : decode cX2_choose 9 = .ok (.putfield 9, 3) := by decide +kernel
theorem dX2_choose_12 : decode cX2_choose 12 = .ok (.bipush 61, 2) := by decide +kernel
theorem dX2_choose_14 : decode cX2_choose 14 = .ok (.istore 4, 2) := by decide +kernel
theorem dX2_choose_16 : decode cX2_choose 16 = .ok (.iload 4, 2) := by decide +kernel
theorem dX2_choose_18 : decode cX2_choose 18 = .ok (.bipush 7, 2) := by decide +kernel
theorem dX2_choose_20 : decode cX2_choose 20 = .ok (.if_icmp .le 43, 3) := by decide +kernel
theorem dX2_choose_23 : decode cX2_choose 23 = .ok (.iload 4, 2) := by decide +kernel
theorem dX2_choose_25 : decode cX2_choose 25 = .ok (.iconst 1, 1) := by decide +kernel
theorem dX2_choose_26 : decode cX2_choose 26 = .ok (.isub, 1) := by decide +kernel
theorem dX2_choose_27 : decode cX2_choose 27 = .ok (.iload_n 3, 1) := by decide +kernel
theorem dX2_choose_28 : decode cX2_choose 28 = .ok (.irem, 1) := by decide +kernel
theorem dX2_choose_29 : decode cX2_choose 29 = .ok (.ifCond .ne 28, 3) := by decide +kernel
theorem dX2_choose_32 : decode cX2_choose 32 = .ok (.iload 4, 2) := by decide +kernel
theorem dX2_choose_34 : decode cX2_choose 34 = .ok (.iload 4, 2) := by decide +kernel
theorem dX2_choose_36 : decode cX2_choose 36 = .ok (.imul, 1) := by decide +kernel
theorem dX2_choose_37 : decode cX2_choose 37 = .ok (.iconst 4, 1) := by decide +kernel
theorem dX2_choose_38 : decode cX2_choose 38 = .ok (.iload_n 1, 1) := by decide +kernel
theorem dX2_choose_39 : decode cX2_choose 39 = .ok (.imul, 1) := by decide +kernel
theorem dX2_choose_40 : decode cX2_choose 40 = .ok (.if_icmp .le 17, 3) := by decide +kernel
theorem dX2_choose_43 : decode cX2_choose 43 = .ok (.iload 4, 2) := by decide +kernel
theorem dX2_choose_45 : decode cX2_choose 45 = .ok (.invokestatic 31, 3) := by decide +kernel
theorem dX2_choose_48 : decode cX2_choose 48 = .ok (.ifCond .eq 9, 3) := by decide +kernel
theorem dX2_choose_51 : decode cX2_choose 51 = .ok (.aload_n 0, 1) := by decide +kernel
theorem dX2_choose_52 : decode cX2_choose 52 = .ok (.iload 4, 2) := by decide +kernel
theorem dX2_choose_54 : decode cX2_choose 54 = .ok (.putfield 9, 3) := by decide +kernel
theorem dX2_choose_57 : decode cX2_choose 57 = .ok (.iinc 4 (-1), 3) := by decide +kernel
theorem dX2_choose_60 : decode cX2_choose 60 = .ok (.goto (-44), 3) := by decide +kernel
theorem dX2_choose_63 : decode cX2_choose 63 = .ok (.aload_n 0, 1) := by decide +kernel
theorem dX2_choose_64 : decode cX2_choose 64 = .ok (.invokevirtual 35, 3) := by decide +kernel
theorem dX2_choose_67 : decode cX2_choose 67 = .ok (.aload_n 0, 1) := by decide +kernel
theorem dX2_choose_68 : decode cX2_choose 68 = .ok (.aload_n 0, 1) := by decide +kernel
theorem dX2_choose_69 : decode cX2_choose 69 = .ok (.aload_n 0, 1) := by decide +kernel
theorem dX2_choose_70 : decode cX2_choose 70 = .ok (.invokevirtual 38, 3) := by decide +kernel
theorem dX2_choose_73 : decode cX2_choose 73 = .ok (.aload_n 0, 1) := by decide +kernel
theorem dX2_choose_74 : decode cX2_choose 74 = .ok (.getfield 9, 3) := by decide +kernel
theorem dX2_choose_77 : decode cX2_choose 77 = .ok (.iconst 1, 1) := by decide +kernel
theorem dX2_choose_78 : decode cX2_choose 78 = .ok (.isub, 1) := by decide +kernel
theorem dX2_choose_79 : decode cX2_choose 79 = .ok (.iload_n 3, 1) := by decide +kernel
theorem dX2_choose_80 : decode cX2_choose 80 = .ok (.idiv, 1) := by decide +kernel
theorem dX2_choose_81 : decode cX2_choose 81 = .ok (.invokevirtual 42, 3) := by decide +kernel
theorem dX2_choose_84 : decode cX2_choose 84 = .ok (.putfield 15, 3) := by decide +kernel
theorem dX2_choose_87 : decode cX2_choose 87 = .ok (.aload_n 0, 1) := by decide +kernel
theorem dX2_choose_88 : decode cX2_choose 88 = .ok (.getfield 22, 3) := by decide +kernel
theorem dX2_choose_91 : decode cX2_choose 91 = .ok (.iconst 0, 1) := by decide +kernel
theorem dX2_choose_92 : decode cX2_choose 92 = .ok (.iconst 1, 1) := by decide +kernel
theorem dX2_choose_93 : decode cX2_choose 93 = .ok (.iastore, 1) := by decide +kernel
theorem dX2_choose_94 : decode cX2_choose 94 = .ok (.iconst 1, 1) := by decide +kernel
theorem dX2_choose_95 : decode cX2_choose 95 = .ok (.istore 4, 2) := by decide +kernel
theorem dX2_choose_97 : decode cX2_choose 97 = .ok (.iload 4, 2) := by decide +kernel
theorem dX2_choose_99 : decode cX2_choose 99 = .ok (.iload_n 3, 1) := by decide +kernel
theorem dX2_choose_100 : decode cX2_choose 100 = .ok (.if_icmp .ge 41, 3) := by decide +kernel
theorem dX2_choose_103 : decode cX2_choose 103 = .ok (.iload 4, 2) := by decide +kernel
theorem dX2_choose_105 : decode cX2_choose 105 = .ok (.bipush 61, 2) := by decide +kernel
theorem dX2_choose_107 : decode cX2_choose 107 = .ok (.if_icmp .ge 34, 3) := by decide +kernel
theorem dX2_choose_110 : decode cX2_choose 110 = .ok (.aload_n 0, 1) := by decide +kernel
theorem dX2_choose_111 : decode cX2_choose 111 = .ok (.getfield 22, 3) := by decide +kernel
theorem dX2_choose_114 : decode cX2_choose 114 = .ok (.iload 4, 2) := by decide +kernel
theorem dX2_choose_116 : decode cX2_choose 116 = .ok (.aload_n 0, 1) := by decide +kernel
theorem dX2_choose_117 : decode cX2_choose 117 = .ok (.aload_n 0, 1) := by decide +kernel
theorem dX2_choose_118 : decode cX2_choose 118 = .ok (.getfield 22, 3) := by decide +kernel
theorem dX2_choose_121 : decode cX2_choose 121 = .ok (.iload 4, 2) := by decide +kernel
theorem dX2_choose_123 : decode cX2_choose 123 = .ok (.iconst 1, 1) := by decide +kernel
theorem dX2_choose_124 : decode cX2_choose 124 = .ok (.isub, 1) := by decide +kernel
theorem dX2_choose_125 : decode cX2_choose 125 = .ok (.iaload, 1) := by decide +kernel
theorem dX2_choose_126 : decode cX2_choose 126 = .ok (.aload_n 0, 1) := by decide +kernel
theorem dX2_choose_127 : decode cX2_choose 127 = .ok (.getfield 15, 3) := by decide +kernel
theorem dX2_choose_130 : decode cX2_choose 130 = .ok (.imul, 1) := by decide +kernel
theorem dX2_choose_131 : decode cX2_choose 131 = .ok (.invokevirtual 45, 3) := by decide +kernel
theorem dX2_choose_134 : decode cX2_choose 134 = .ok (.iastore, 1) := by decide +kernel
theorem dX2_choose_135 : decode cX2_choose 135 = .ok (.iinc 4 1, 3) := by decide +kernel
theorem dX2_choose_138 : decode cX2_choose 138 = .ok (.goto (-41), 3) := by decide +kernel
theorem dX2_choose_141 : decode cX2_choose 141 = .ok (.return_, 1) := by decide +kernel
theorem dX2_left_0 : decode cX2_left 0 = .ok (.aload_n 0, 1) := by decide +kernel
theorem dX2_left_1 : decode cX2_left 1 = .ok (.getfield 9, 3) := by decide +kernel
theorem dX2_left_4 : decode cX2_left 4 = .ok (.ifCond .le 12, 3) := by decide +kernel
theorem dX2_left_7 : decode cX2_left 7 = .ok (.iload_n 1, 1) := by decide +kernel
theorem dX2_left_8 : decode cX2_left 8 = .ok (.aload_n 0, 1) := by decide +kernel
theorem dX2_left_9 : decode cX2_left 9 = .ok (.getfield 9, 3) := by decide +kernel
theorem dX2_left_12 : decode cX2_left 12 = .ok (.irem, 1) := by decide +kernel
theorem dX2_left_13 : decode cX2_left 13 = .ok (.goto 4, 3) := by decide +kernel
theorem dX2_left_16 : decode cX2_left 16 = .ok (.iconst 0, 1) := by decide +kernel
theorem dX2_left_17 : decode cX2_left 17 = .ok (.istore_n 2, 1) := by decide +kernel
theorem dX2_left_18 : decode cX2_left 18 = .ok (.iload_n 2, 1) := by decide +kernel
theorem dX2_left_19 : decode cX2_left 19 = .ok (.ifCond .ge 12, 3) := by decide +kernel
theorem dX2_left_22 : decode cX2_left 22 = .ok (.iload_n 2, 1) := by decide +kernel
theorem dX2_left_23 : decode cX2_left 23 = .ok (.aload_n 0, 1) := by decide +kernel
theorem dX2_left_24 : decode cX2_left 24 = .ok (.getfield 9, 3) := by decide +kernel
theorem dX2_left_27 : decode cX2_left 27 = .ok (.iadd, 1) := by decide +kernel
theorem dX2_left_28 : decode cX2_left 28 = .ok (.goto 4, 3) := by decide +kernel
theorem dX2_left_31 : decode cX2_left 31 = .ok (.iload_n 2, 1) := by decide +kernel
theorem dX2_left_32 : decode cX2_left 32 = .ok (.ireturn, 1) := by decide +kernel
theorem dX2_divided_0 : decode cX2_divided 0 = .ok (.aload_n 0, 1) := by decide +kernel
theorem dX2_divided_1 : decode cX2_divided 1 = .ok (.aload_n 0, 1) := by decide +kernel
theorem dX2_divided_2 : decode cX2_divided 2 = .ok (.iload_n 1, 1) := by decide +kernel
theorem dX2_divided_3 : decode cX2_divided 3 = .ok (.invokevirtual 45, 3) := by decide +kernel
theorem dX2_divided_6 : decode cX2_divided 6 = .ok (.aload_n 0, 1) := by decide +kernel
theorem dX2_divided_7 : decode cX2_divided 7 = .ok (.getfield 18, 3) := by decide +kernel
theorem dX2_divided_10 : decode cX2_divided 10 = .ok (.aload_n 0, 1) := by decide +kernel
theorem dX2_divided_11 : decode cX2_divided 11 = .ok (.iload_n 2, 1) := by decide +kernel
theorem dX2_divided_12 : decode cX2_divided 12 = .ok (.invokevirtual 45, 3) := by decide +kernel
theorem dX2_divided_15 : decode cX2_divided 15 = .ok (.iaload, 1) := by decide +kernel
theorem dX2_divided_16 : decode cX2_divided 16 = .ok (.imul, 1) := by decide +kernel
theorem dX2_divided_17 : decode cX2_divided 17 = .ok (.invokevirtual 45, 3) := by decide +kernel
theorem dX2_divided_20 : decode cX2_divided 20 = .ok (.ireturn, 1) := by decide +kernel
theorem dX2_isPrime_0 : decode cX2_isPrime 0 = .ok (.iconst 2, 1) := by decide +kernel
theorem dX2_isPrime_1 : decode cX2_isPrime 1 = .ok (.istore_n 1, 1) := by decide +kernel
theorem dX2_isPrime_2 : decode cX2_isPrime 2 = .ok (.iload_n 1, 1) := by decide +kernel
theorem dX2_isPrime_3 : decode cX2_isPrime 3 = .ok (.iload_n 1, 1) := by decide +kernel
theorem dX2_isPrime_4 : decode cX2_isPrime 4 = .ok (.imul, 1) := by decide +kernel
theorem dX2_isPrime_5 : decode cX2_isPrime 5 = .ok (.iload_n 0, 1) := by decide +kernel
theorem dX2_isPrime_6 : decode cX2_isPrime 6 = .ok (.if_icmp .gt 17, 3) := by decide +kernel
theorem dX2_isPrime_9 : decode cX2_isPrime 9 = .ok (.iload_n 0, 1) := by decide +kernel
theorem dX2_isPrime_10 : decode cX2_isPrime 10 = .ok (.iload_n 1, 1) := by decide +kernel
theorem dX2_isPrime_11 : decode cX2_isPrime 11 = .ok (.irem, 1) := by decide +kernel
theorem dX2_isPrime_12 : decode cX2_isPrime 12 = .ok (.ifCond .ne 5, 3) := by decide +kernel
theorem dX2_isPrime_15 : decode cX2_isPrime 15 = .ok (.iconst 0, 1) := by decide +kernel
theorem dX2_isPrime_16 : decode cX2_isPrime 16 = .ok (.ireturn, 1) := by decide +kernel
theorem dX2_isPrime_17 : decode cX2_isPrime 17 = .ok (.iinc 1 1, 3) := by decide +kernel
theorem dX2_isPrime_20 : decode cX2_isPrime 20 = .ok (.goto (-18), 3) := by decide +kernel
theorem dX2_isPrime_23 : decode cX2_isPrime 23 = .ok (.iload_n 0, 1) := by decide +kernel
theorem dX2_isPrime_24 : decode cX2_isPrime 24 = .ok (.iconst 1, 1) := by decide +kernel
theorem dX2_isPrime_25 : decode cX2_isPrime 25 = .ok (.if_icmp .le 7, 3) := by decide +kernel
theorem dX2_isPrime_28 : decode cX2_isPrime 28 = .ok (.iconst 1, 1) := by decide +kernel
theorem dX2_isPrime_29 : decode cX2_isPrime 29 = .ok (.goto 4, 3) := by decide +kernel
theorem dX2_isPrime_32 : decode cX2_isPrime 32 = .ok (.iconst 0, 1) := by decide +kernel
theorem dX2_isPrime_33 : decode cX2_isPrime 33 = .ok (.ireturn, 1) := by decide +kernel
theorem dX2_findOver_0 : decode cX2_findOver 0 = .ok (.aload_n 0, 1) := by decide +kernel
theorem dX2_findOver_1 : decode cX2_findOver 1 = .ok (.getfield 18, 3) := by decide +kernel
theorem dX2_findOver_4 : decode cX2_findOver 4 = .ok (.iconst 0, 1) := by decide +kernel
theorem dX2_findOver_5 : decode cX2_findOver 5 = .ok (.iconst 0, 1) := by decide +kernel
theorem dX2_findOver_6 : decode cX2_findOver 6 = .ok (.iastore, 1) := by decide +kernel
theorem dX2_findOver_7 : decode cX2_findOver 7 = .ok (.aload_n 0, 1) := by decide +kernel
theorem dX2_findOver_8 : decode cX2_findOver 8 = .ok (.getfield 18, 3) := by decide +kernel
theorem dX2_findOver_11 : decode cX2_findOver 11 = .ok (.iconst 1, 1) := by decide +kernel
theorem dX2_findOver_12 : decode cX2_findOver 12 = .ok (.iconst 1, 1) := by decide +kernel
theorem dX2_findOver_13 : decode cX2_findOver 13 = .ok (.iastore, 1) := by decide +kernel
theorem dX2_findOver_14 : decode cX2_findOver 14 = .ok (.iconst 2, 1) := by decide +kernel
theorem dX2_findOver_15 : decode cX2_findOver 15 = .ok (.istore_n 1, 1) := by decide +kernel
theorem dX2_findOver_16 : decode cX2_findOver 16 = .ok (.iload_n 1, 1) := by decide +kernel
theorem dX2_findOver_17 : decode cX2_findOver 17 = .ok (.aload_n 0, 1) := by decide +kernel
theorem dX2_findOver_18 : decode cX2_findOver 18 = .ok (.getfield 9, 3) := by decide +kernel
theorem dX2_findOver_21 : decode cX2_findOver 21 = .ok (.if_icmp .ge 42, 3) := by decide +kernel
theorem dX2_findOver_24 : decode cX2_findOver 24 = .ok (.aload_n 0, 1) := by decide +kernel
theorem dX2_findOver_25 : decode cX2_findOver 25 = .ok (.getfield 18, 3) := by decide +kernel
theorem dX2_findOver_28 : decode cX2_findOver 28 = .ok (.iload_n 1, 1) := by decide +kernel
theorem dX2_findOver_29 : decode cX2_findOver 29 = .ok (.aload_n 0, 1) := by decide +kernel
theorem dX2_findOver_30 : decode cX2_findOver 30 = .ok (.aload_n 0, 1) := by decide +kernel
theorem dX2_findOver_31 : decode cX2_findOver 31 = .ok (.getfield 9, 3) := by decide +kernel
theorem dX2_findOver_34 : decode cX2_findOver 34 = .ok (.aload_n 0, 1) := by decide +kernel
theorem dX2_findOver_35 : decode cX2_findOver 35 = .ok (.getfield 9, 3) := by decide +kernel
theorem dX2_findOver_38 : decode cX2_findOver 38 = .ok (.iload_n 1, 1) := by decide +kernel
theorem dX2_findOver_39 : decode cX2_findOver 39 = .ok (.idiv, 1) := by decide +kernel
theorem dX2_findOver_40 : decode cX2_findOver 40 = .ok (.isub, 1) := by decide +kernel
theorem dX2_findOver_41 : decode cX2_findOver 41 = .ok (.aload_n 0, 1) := by decide +kernel
theorem dX2_findOver_42 : decode cX2_findOver 42 = .ok (.getfield 18, 3) := by decide +kernel
theorem dX2_findOver_45 : decode cX2_findOver 45 = .ok (.aload_n 0, 1) := by decide +kernel
theorem dX2_findOver_46 : decode cX2_findOver 46 = .ok (.getfield 9, 3) := by decide +kernel
theorem dX2_findOver_49 : decode cX2_findOver 49 = .ok (.iload_n 1, 1) := by decide +kernel
theorem dX2_findOver_50 : decode cX2_findOver 50 = .ok (.irem, 1) := by decide +kernel
theorem dX2_findOver_51 : decode cX2_findOver 51 = .ok (.iaload, 1) := by decide +kernel
theorem dX2_findOver_52 : decode cX2_findOver 52 = .ok (.imul, 1) := by decide +kernel
theorem dX2_findOver_53 : decode cX2_findOver 53 = .ok (.invokevirtual 45, 3) := by decide +kernel
theorem dX2_findOver_56 : decode cX2_findOver 56 = .ok (.iastore, 1) := by decide +kernel
theorem dX2_findOver_57 : decode cX2_findOver 57 = .ok (.iinc 1 1, 3) := by decide +kernel
theorem dX2_findOver_60 : decode cX2_findOver 60 = .ok (.goto (-44), 3) := by decide +kernel
theorem dX2_findOver_63 : decode cX2_findOver 63 = .ok (.return_, 1) := by decide +kernel
theorem dX2_powerOf_0 : decode cX2_powerOf 0 = .ok (.iconst 1, 1) := by decide +kernel
theorem dX2_powerOf_1 : decode cX2_powerOf 1 = .ok (.istore_n 3, 1) := by decide +kernel
theorem dX2_powerOf_2 : decode cX2_powerOf 2 = .ok (.iconst 0, 1) := by decide +kernel
theorem dX2_powerOf_3 : decode cX2_powerOf 3 = .ok (.istore 4, 2) := by decide +kernel
theorem dX2_powerOf_5 : decode cX2_powerOf 5 = .ok (.iload 4, 2) := by decide +kernel
theorem dX2_powerOf_7 : decode cX2_powerOf 7 = .ok (.iload_n 2, 1) := by decide +kernel
theorem dX2_powerOf_8 : decode cX2_powerOf 8 = .ok (.if_icmp .ge 17, 3) := by decide +kernel
theorem dX2_powerOf_11 : decode cX2_powerOf 11 = .ok (.aload_n 0, 1) := by decide +kernel
theorem dX2_powerOf_12 : decode cX2_powerOf 12 = .ok (.iload_n 3, 1) := by decide +kernel
theorem dX2_powerOf_13 : decode cX2_powerOf 13 = .ok (.iload_n 1, 1) := by decide +kernel
theorem dX2_powerOf_14 : decode cX2_powerOf 14 = .ok (.imul, 1) := by decide +kernel
theorem dX2_powerOf_15 : decode cX2_powerOf 15 = .ok (.invokevirtual 45, 3) := by decide +kernel
theorem dX2_powerOf_18 : decode cX2_powerOf 18 = .ok (.istore_n 3, 1) := by decide +kernel
theorem dX2_powerOf_19 : decode cX2_powerOf 19 = .ok (.iinc 4 1, 3) := by decide +kernel
theorem dX2_powerOf_22 : decode cX2_powerOf 22 = .ok (.goto (-17), 3) := by decide +kernel
theorem dX2_powerOf_25 : decode cX2_powerOf 25 = .ok (.iload_n 3, 1) := by decide +kernel
theorem dX2_powerOf_26 : decode cX2_powerOf 26 = .ok (.ireturn, 1) := by decide +kernel
theorem dX2_leastMaker_0 : decode cX2_leastMaker 0 = .ok (.iconst 1, 1) := by decide +kernel
theorem dX2_leastMaker_1 : decode cX2_leastMaker 1 = .ok (.istore_n 1, 1) := by decide +kernel
theorem dX2_leastMaker_2 : decode cX2_leastMaker 2 = .ok (.iload_n 1, 1) := by decide +kernel
theorem dX2_leastMaker_3 : decode cX2_leastMaker 3 = .ok (.aload_n 0, 1) := by decide +kernel
theorem dX2_leastMaker_4 : decode cX2_leastMaker 4 = .ok (.getfield 9, 3) := by decide +kernel
theorem dX2_leastMaker_7 : decode cX2_leastMaker 7 = .ok (.if_icmp .ge 52, 3) := by decide +kernel
theorem dX2_leastMaker_10 : decode cX2_leastMaker 10 = .ok (.iload_n 1, 1) := by decide +kernel
theorem dX2_leastMaker_11 : decode cX2_leastMaker 11 = .ok (.istore_n 2, 1) := by decide +kernel
theorem dX2_leastMaker_12 : decode cX2_leastMaker 12 = .ok (.iconst 1, 1) := by decide +kernel
theorem dX2_leastMaker_13 : decode cX2_leastMaker 13 = .ok (.istore_n 3, 1) := by decide +kernel
theorem dX2_leastMaker_14 : decode cX2_leastMaker 14 = .ok (.iload_n 2, 1) := by decide +kernel
theorem dX2_leastMaker_15 : decode cX2_leastMaker 15 = .ok (.iconst 1, 1) := by decide +kernel
theorem dX2_leastMaker_16 : decode cX2_leastMaker 16 = .ok (.if_icmp .eq 25, 3) := by decide +kernel
theorem dX2_leastMaker_19 : decode cX2_leastMaker 19 = .ok (.iload_n 3, 1) := by decide +kernel
theorem dX2_leastMaker_20 : decode cX2_leastMaker 20 = .ok (.aload_n 0, 1) := by decide +kernel
theorem dX2_leastMaker_21 : decode cX2_leastMaker 21 = .ok (.getfield 9, 3) := by decide +kernel
theorem dX2_leastMaker_24 : decode cX2_leastMaker 24 = .ok (.if_icmp .ge 17, 3) := by decide +kernel
theorem dX2_leastMaker_27 : decode cX2_leastMaker 27 = .ok (.aload_n 0, 1) := by decide +kernel
theorem dX2_leastMaker_28 : decode cX2_leastMaker 28 = .ok (.iload_n 2, 1) := by decide +kernel
theorem dX2_leastMaker_29 : decode cX2_leastMaker 29 = .ok (.iload_n 1, 1) := by decide +kernel
theorem dX2_leastMaker_30 : decode cX2_leastMaker 30 = .ok (.imul, 1) := by decide +kernel
theorem dX2_leastMaker_31 : decode cX2_leastMaker 31 = .ok (.invokevirtual 45, 3) := by decide +kernel
theorem dX2_leastMaker_34 : decode cX2_leastMaker 34 = .ok (.istore_n 2, 1) := by decide +kernel
theorem dX2_leastMaker_35 : decode cX2_leastMaker 35 = .ok (.iinc 3 1, 3) := by decide +kernel
theorem dX2_leastMaker_38 : decode cX2_leastMaker 38 = .ok (.goto (-24), 3) := by decide +kernel
theorem dX2_leastMaker_41 : decode cX2_leastMaker 41 = .ok (.iload_n 3, 1) := by decide +kernel
theorem dX2_leastMaker_42 : decode cX2_leastMaker 42 = .ok (.aload_n 0, 1) := by decide +kernel
theorem dX2_leastMaker_43 : decode cX2_leastMaker 43 = .ok (.getfield 9, 3) := by decide +kernel
theorem dX2_leastMaker_46 : decode cX2_leastMaker 46 = .ok (.iconst 1, 1) := by decide +kernel
theorem dX2_leastMaker_47 : decode cX2_leastMaker 47 = .ok (.isub, 1) := by decide +kernel
theorem dX2_leastMaker_48 : decode cX2_leastMaker 48 = .ok (.if_icmp .ne 5, 3) := by decide +kernel
theorem dX2_leastMaker_51 : decode cX2_leastMaker 51 = .ok (.iload_n 1, 1) := by decide +kernel
theorem dX2_leastMaker_52 : decode cX2_leastMaker 52 = .ok (.ireturn, 1) := by decide +kernel
theorem dX2_leastMaker_53 : decode cX2_leastMaker 53 = .ok (.iinc 1 1, 3) := by decide +kernel
theorem dX2_leastMaker_56 : decode cX2_leastMaker 56 = .ok (.goto (-54), 3) := by decide +kernel
theorem dX2_leastMaker_59 : decode cX2_leastMaker 59 = .ok (.iconst 1, 1) := by decide +kernel
theorem dX2_leastMaker_60 : decode cX2_leastMaker 60 = .ok (.ireturn, 1) := by decide +kernel
