theorem dX6_init_0 : decode cX6_init 0 = .ok (.aload_n 0, 1) := by decide +kernel
theorem dX6_init_1 : decode cX6_init 1 = .ok (.invokespecial 3, 3) := by decide +kernel
theorem dX6_init_4 : decode cX6_init 4 = .ok (.aload_n 0, 1) := by decide +kernel
theorem dX6_init_5 : decode cX6_init 5 = .ok (.new 9, 3) := by decide +kernel
theorem dX6_init_8 : decode cX6_init 8 = .ok (.dup, 1) := by decide +kernel
theorem dX6_init_9 : decode cX6_init 9 = .ok (.invokespecial 11, 3) := by decide +kernel
theorem dX6_init_12 : decode cX6_init 12 = .ok (.putfield 12, 3) := by decide +kernel
theorem dX6_init_15 : decode cX6_init 15 = .ok (.aload_n 0, 1) := by decide +kernel
theorem dX6_init_16 : decode cX6_init 16 = .ok (.iconst 0, 1) := by decide +kernel
theorem dX6_init_17 : decode cX6_init 17 = .ok (.putfield 18, 3) := by decide +kernel
theorem dX6_init_20 : decode cX6_init 20 = .ok (.aload_n 0, 1) := by decide +kernel
theorem dX6_init_21 : decode cX6_init 21 = .ok (.iconst 1, 1) := by decide +kernel
theorem dX6_init_22 : decode cX6_init 22 = .ok (.putfield 22, 3) := by decide +kernel
theorem dX6_init_25 : decode cX6_init 25 = .ok (.aload_n 0, 1) := by decide +kernel
theorem dX6_init_26 : decode cX6_init 26 = .ok (.bipush 120, 2) := by decide +kernel
theorem dX6_init_28 : decode cX6_init 28 = .ok (.newarray .int, 2) := by decide +kernel
theorem dX6_init_30 : decode cX6_init 30 = .ok (.putfield 25, 3) := by decide +kernel
theorem dX6_init_33 : decode cX6_init 33 = .ok (.aload_n 0, 1) := by decide +kernel
theorem dX6_init_34 : decode cX6_init 34 = .ok (.bipush 7, 2) := by decide +kernel
theorem dX6_init_36 : decode cX6_init 36 = .ok (.newarray .int, 2) := by decide +kernel
theorem dX6_init_38 : decode cX6_init 38 = .ok (.putfield 29, 3) := by decide +kernel
theorem dX6_init_41 : decode cX6_init 41 = .ok (.aload_n 0, 1) := by decide +kernel
theorem dX6_init_42 : decode cX6_init 42 = .ok (.bipush 7, 2) := by decide +kernel
theorem dX6_init_44 : decode cX6_init 44 = .ok (.newarray .int, 2) := by decide +kernel
theorem dX6_init_46 : decode cX6_init 46 = .ok (.putfield 32, 3) := by decide +kernel
theorem dX6_init_49 : decode cX6_init 49 = .ok (.aload_n 0, 1) := by decide +kernel
theorem dX6_init_50 : decode cX6_init 50 = .ok (.bipush 7, 2) := by decide +kernel
theorem dX6_init_52 : decode cX6_init 52 = .ok (.newarray .int, 2) := by decide +kernel
theorem dX6_init_54 : decode cX6_init 54 = .ok (.putfield 35, 3) := by decide +kernel
theorem dX6_init_57 : decode cX6_init 57 = .ok (.aload_n 0, 1) := by decide +kernel
theorem dX6_init_58 : decode cX6_init 58 = .ok (.bipush 7, 2) := by decide +kernel
theorem dX6_init_60 : decode cX6_init 60 = .ok (.newarray .int, 2) := by decide +kernel
theorem dX6_init_62 : decode cX6_init 62 = .ok (.putfield 38, 3) := by decide +kernel
theorem dX6_init_65 : decode cX6_init 65 = .ok (.aload_n 0, 1) := by decide +kernel
theorem dX6_init_66 : decode cX6_init 66 = .ok (.bipush 7, 2) := by decide +kernel
theorem dX6_init_68 : decode cX6_init 68 = .ok (.newarray .int, 2) := by decide +kernel
theorem dX6_init_70 : decode cX6_init 70 = .ok (.putfield 41, 3) := by decide +kernel
theorem dX6_init_73 : decode cX6_init 73 = .ok (.aload_n 0, 1) := by decide +kernel
theorem dX6_init_74 : decode cX6_init 74 = .ok (.sipush 343, 3) := by decide +kernel
theorem dX6_init_77 : decode cX6_init 77 = .ok (.newarray .int, 2) := by decide +kernel
theorem dX6_init_79 : decode cX6_init 79 = .ok (.putfield 44, 3) := by decide +kernel
theorem dX6_init_82 : decode cX6_init 82 = .ok (.aload_n 0, 1) := by decide +kernel
theorem dX6_init_83 : decode cX6_init 83 = .ok (.bipush 42, 2) := by decide +kernel
theorem dX6_init_85 : decode cX6_init 85 = .ok (.newarray .int, 2) := by decide +kernel
theorem dX6_init_87 : decode cX6_init 87 = .ok (.putfield 47, 3) := by decide +kernel
theorem dX6_init_90 : decode cX6_init 90 = .ok (.return_, 1) := by decide +kernel
theorem dX6_pairPlace_0 : decode cX6_pairPlace 0 = .ok (.iload_n 0, 1) := by decide +kernel
theorem dX6_pairPlace_1 : decode cX6_pairPlace 1 = .ok (.bipush 7, 2) := by decide +kernel
theorem dX6_pairPlace_3 : decode cX6_pairPlace 3 = .ok (.imul, 1) := by decide +kernel
theorem dX6_pairPlace_4 : decode cX6_pairPlace 4 = .ok (.iload_n 1, 1) := by decide +kernel
theorem dX6_pairPlace_5 : decode cX6_pairPlace 5 = .ok (.iadd, 1) := by decide +kernel
theorem dX6_pairPlace_6 : decode cX6_pairPlace 6 = .ok (.bipush 7, 2) := by decide +kernel
theorem dX6_pairPlace_8 : decode cX6_pairPlace 8 = .ok (.imul, 1) := by decide +kernel
theorem dX6_pairPlace_9 : decode cX6_pairPlace 9 = .ok (.iload_n 2, 1) := by decide +kernel
theorem dX6_pairPlace_10 : decode cX6_pairPlace 10 = .ok (.iadd, 1) := by decide +kernel
theorem dX6_pairPlace_11 : decode cX6_pairPlace 11 = .ok (.ireturn, 1) := by decide +kernel
theorem dX6_takeApart_0 : decode cX6_takeApart 0 = .ok (.aload_n 0, 1) := by decide +kernel
theorem dX6_takeApart_1 : decode cX6_takeApart 1 = .ok (.getfield 25, 3) := by decide +kernel
theorem dX6_takeApart_4 : decode cX6_takeApart 4 = .ok (.iconst (-1), 1) := by decide +kernel
theorem dX6_takeApart_5 : decode cX6_takeApart 5 = .ok (.invokestatic 50, 3) := by decide +kernel
theorem dX6_takeApart_8 : decode cX6_takeApart 8 = .ok (.aload_n 0, 1) := by decide +kernel
theorem dX6_takeApart_9 : decode cX6_takeApart 9 = .ok (.iconst 0, 1) := by decide +kernel
theorem dX6_takeApart_10 : decode cX6_takeApart 10 = .ok (.putfield 18, 3) := by decide +kernel
theorem dX6_takeApart_13 : decode cX6_takeApart 13 = .ok (.iconst 0, 1) := by decide +kernel
theorem dX6_takeApart_14 : decode cX6_takeApart 14 = .ok (.istore_n 1, 1) := by decide +kernel
theorem dX6_takeApart_15 : decode cX6_takeApart 15 = .ok (.iload_n 1, 1) := by decide +kernel
theorem dX6_takeApart_16 : decode cX6_takeApart 16 = .ok (.aload_n 0, 1) := by decide +kernel
theorem dX6_takeApart_17 : decode cX6_takeApart 17 = .ok (.getfield 12, 3) := by decide +kernel
theorem dX6_takeApart_20 : decode cX6_takeApart 20 = .ok (.getfield 56, 3) := by decide +kernel
theorem dX6_takeApart_23 : decode cX6_takeApart 23 = .ok (.if_icmp .ge 66, 3) := by decide +kernel
theorem dX6_takeApart_26 : decode cX6_takeApart 26 = .ok (.aload_n 0, 1) := by decide +kernel
theorem dX6_takeApart_27 : decode cX6_takeApart 27 = .ok (.getfield 25, 3) := by decide +kernel
theorem dX6_takeApart_30 : decode cX6_takeApart 30 = .ok (.iload_n 1, 1) := by decide +kernel
theorem dX6_takeApart_31 : decode cX6_takeApart 31 = .ok (.iaload, 1) := by decide +kernel
theorem dX6_takeApart_32 : decode cX6_takeApart 32 = .ok (.iconst (-1), 1) := by decide +kernel
theorem dX6_takeApart_33 : decode cX6_takeApart 33 = .ok (.if_icmp .ne 50, 3) := by decide +kernel
theorem dX6_takeApart_36 : decode cX6_takeApart 36 = .ok (.aload_n 0, 1) := by decide +kernel
theorem dX6_takeApart_37 : decode cX6_takeApart 37 = .ok (.getfield 18, 3) := by decide +kernel
theorem dX6_takeApart_40 : decode cX6_takeApart 40 = .ok (.bipush 7, 2) := by decide +kernel
theorem dX6_takeApart_42 : decode cX6_takeApart 42 = .ok (.if_icmp .ge 41, 3) := by decide +kernel
theorem dX6_takeApart_45 : decode cX6_takeApart 45 = .ok (.aload_n 0, 1) := by decide +kernel
theorem dX6_takeApart_46 : decode cX6_takeApart 46 = .ok (.getfield 35, 3) := by decide +kernel
theorem dX6_takeApart_49 : decode cX6_takeApart 49 = .ok (.aload_n 0, 1) := by decide +kernel
theorem dX6_takeApart_50 : decode cX6_takeApart 50 = .ok (.getfield 18, 3) := by decide +kernel
theorem dX6_takeApart_53 : decode cX6_takeApart 53 = .ok (.iload_n 1, 1) := by decide +kernel
theorem dX6_takeApart_54 : decode cX6_takeApart 54 = .ok (.iastore, 1) := by decide +kernel
theorem dX6_takeApart_55 : decode cX6_takeApart 55 = .ok (.aload_n 0, 1) := by decide +kernel
theorem dX6_takeApart_56 : decode cX6_takeApart 56 = .ok (.getfield 29, 3) := by decide +kernel
theorem dX6_takeApart_59 : decode cX6_takeApart 59 = .ok (.aload_n 0, 1) := by decide +kernel
theorem dX6_takeApart_60 : decode cX6_takeApart 60 = .ok (.getfield 18, 3) := by decide +kernel
theorem dX6_takeApart_63 : decode cX6_takeApart 63 = .ok (.aload_n 0, 1) := by decide +kernel
theorem dX6_takeApart_64 : decode cX6_takeApart 64 = .ok (.iload_n 1, 1) := by decide +kernel
theorem dX6_takeApart_65 : decode cX6_takeApart 65 = .ok (.aload_n 0, 1) := by decide +kernel
theorem dX6_takeApart_66 : decode cX6_takeApart 66 = .ok (.getfield 18, 3) := by decide +kernel
theorem dX6_takeApart_69 : decode cX6_takeApart 69 = .ok (.invokevirtual 59, 3) := by decide +kernel
theorem dX6_takeApart_72 : decode cX6_takeApart 72 = .ok (.iastore, 1) := by decide +kernel
theorem dX6_takeApart_73 : decode cX6_takeApart 73 = .ok (.aload_n 0, 1) := by decide +kernel
theorem dX6_takeApart_74 : decode cX6_takeApart 74 = .ok (.dup, 1) := by decide +kernel
theorem dX6_takeApart_75 : decode cX6_takeApart 75 = .ok (.getfield 18, 3) := by decide +kernel
theorem dX6_takeApart_78 : decode cX6_takeApart 78 = .ok (.iconst 1, 1) := by decide +kernel
theorem dX6_takeApart_79 : decode cX6_takeApart 79 = .ok (.iadd, 1) := by decide +kernel
theorem dX6_takeApart_80 : decode cX6_takeApart 80 = .ok (.putfield 18, 3) := by decide +kernel
theorem dX6_takeApart_83 : decode cX6_takeApart 83 = .ok (.iinc 1 1, 3) := by decide +kernel
theorem dX6_takeApart_86 : decode cX6_takeApart 86 = .ok (.goto (-71), 3) := by decide +kernel
theorem dX6_takeApart_89 : decode cX6_takeApart 89 = .ok (.return_, 1) := by decide +kernel
theorem dX6_describe_0 : decode cX6_describe 0 = .ok (.aload_n 0, 1) := by decide +kernel
theorem dX6_describe_1 : decode cX6_describe 1 = .ok (.iconst 1, 1) := by decide +kernel
theorem dX6_describe_2 : decode cX6_describe 2 = .ok (.putfield 22, 3) := by decide +kernel
theorem dX6_describe_5 : decode cX6_describe 5 = .ok (.iconst 0, 1) := by decide +kernel
theorem dX6_describe_6 : decode cX6_describe 6 = .ok (.istore_n 1, 1) := by decide +kernel
theorem dX6_describe_7 : decode cX6_describe 7 = .ok (.iload_n 1, 1) := by decide +kernel
theorem dX6_describe_8 : decode cX6_describe 8 = .ok (.aload_n 0, 1) := by decide +kernel
theorem dX6_describe_9 : decode cX6_describe 9 = .ok (.getfield 18, 3) := by decide +kernel
theorem dX6_describe_12 : decode cX6_describe 12 = .ok (.if_icmp .ge 75, 3) := by decide +kernel
theorem dX6_describe_15 : decode cX6_describe 15 = .ok (.aload_n 0, 1) := by decide +kernel
theorem dX6_describe_16 : decode cX6_describe 16 = .ok (.getfield 38, 3) := by decide +kernel
theorem dX6_describe_19 : decode cX6_describe 19 = .ok (.iload_n 1, 1) := by decide +kernel
theorem dX6_describe_20 : decode cX6_describe 20 = .ok (.aload_n 0, 1) := by decide +kernel
theorem dX6_describe_21 : decode cX6_describe 21 = .ok (.getfield 25, 3) := by decide +kernel
theorem dX6_describe_24 : decode cX6_describe 24 = .ok (.aload_n 0, 1) := by decide +kernel
theorem dX6_describe_25 : decode cX6_describe 25 = .ok (.getfield 12, 3) := by decide +kernel
theorem dX6_describe_28 : decode cX6_describe 28 = .ok (.getfield 63, 3) := by decide +kernel
theorem dX6_describe_31 : decode cX6_describe 31 = .ok (.aload_n 0, 1) := by decide +kernel
theorem dX6_describe_32 : decode cX6_describe 32 = .ok (.getfield 35, 3) := by decide +kernel
theorem dX6_describe_35 : decode cX6_describe 35 = .ok (.iload_n 1, 1) := by decide +kernel
theorem dX6_describe_36 : decode cX6_describe 36 = .ok (.iaload, 1) := by decide +kernel
theorem dX6_describe_37 : decode cX6_describe 37 = .ok (.iaload, 1) := by decide +kernel
theorem dX6_describe_38 : decode cX6_describe 38 = .ok (.iaload, 1) := by decide +kernel
theorem dX6_describe_39 : decode cX6_describe 39 = .ok (.iastore, 1) := by decide +kernel
theorem dX6_describe_40 : decode cX6_describe 40 = .ok (.aload_n 0, 1) := by decide +kernel
theorem dX6_describe_41 : decode cX6_describe 41 = .ok (.getfield 41, 3) := by decide +kernel
theorem dX6_describe_44 : decode cX6_describe 44 = .ok (.iload_n 1, 1) := by decide +kernel
theorem dX6_describe_45 : decode cX6_describe 45 = .ok (.aload_n 0, 1) := by decide +kernel
theorem dX6_describe_46 : decode cX6_describe 46 = .ok (.getfield 12, 3) := by decide +kernel
theorem dX6_describe_49 : decode cX6_describe 49 = .ok (.aload_n 0, 1) := by decide +kernel
theorem dX6_describe_50 : decode cX6_describe 50 = .ok (.getfield 35, 3) := by decide +kernel
theorem dX6_describe_53 : decode cX6_describe 53 = .ok (.iload_n 1, 1) := by decide +kernel
theorem dX6_describe_54 : decode cX6_describe 54 = .ok (.iaload, 1) := by decide +kernel
theorem dX6_describe_55 : decode cX6_describe 55 = .ok (.invokevirtual 64, 3) := by decide +kernel
theorem dX6_describe_58 : decode cX6_describe 58 = .ok (.iastore, 1) := by decide +kernel
theorem dX6_describe_59 : decode cX6_describe 59 = .ok (.aload_n 0, 1) := by decide +kernel
theorem dX6_describe_60 : decode cX6_describe 60 = .ok (.iload_n 1, 1) := by decide +kernel
theorem dX6_describe_61 : decode cX6_describe 61 = .ok (.invokevirtual 67, 3) := by decide +kernel
theorem dX6_describe_64 : decode cX6_describe 64 = .ok (.aload_n 0, 1) := by decide +kernel
theorem dX6_describe_65 : decode cX6_describe 65 = .ok (.aload_n 0, 1) := by decide +kernel
theorem dX6_describe_66 : decode cX6_describe 66 = .ok (.getfield 22, 3) := by decide +kernel
theorem dX6_describe_69 : decode cX6_describe 69 = .ok (.aload_n 0, 1) := by decide +kernel
theorem dX6_describe_70 : decode cX6_describe 70 = .ok (.getfield 32, 3) := by decide +kernel
theorem dX6_describe_73 : decode cX6_describe 73 = .ok (.iload_n 1, 1) := by decide +kernel
theorem dX6_describe_74 : decode cX6_describe 74 = .ok (.iaload, 1) := by decide +kernel
theorem dX6_describe_75 : decode cX6_describe 75 = .ok (.invokestatic 71, 3) := by decide +kernel
theorem dX6_describe_78 : decode cX6_describe 78 = .ok (.putfield 22, 3) := by decide +kernel
theorem dX6_describe_81 : decode cX6_describe 81 = .ok (.iinc 1 1, 3) := by decide +kernel
theorem dX6_describe_84 : decode cX6_describe 84 = .ok (.goto (-77), 3) := by decide +kernel
theorem dX6_describe_87 : decode cX6_describe 87 = .ok (.aload_n 0, 1) := by decide +kernel
theorem dX6_describe_88 : decode cX6_describe 88 = .ok (.invokevirtual 74, 3) := by decide +kernel
theorem dX6_describe_91 : decode cX6_describe 91 = .ok (.return_, 1) := by decide +kernel
theorem dX6_countAlone_0 : decode cX6_countAlone 0 = .ok (.iconst 0, 1) := by decide +kernel
theorem dX6_countAlone_1 : decode cX6_countAlone 1 = .ok (.istore_n 1, 1) := by decide +kernel
theorem dX6_countAlone_2 : decode cX6_countAlone 2 = .ok (.iconst 0, 1) := by decide +kernel
theorem dX6_countAlone_3 : decode cX6_countAlone 3 = .ok (.istore_n 2, 1) := by decide +kernel
theorem dX6_countAlone_4 : decode cX6_countAlone 4 = .ok (.iload_n 2, 1) := by decide +kernel
theorem dX6_countAlone_5 : decode cX6_countAlone 5 = .ok (.aload_n 0, 1) := by decide +kernel
theorem dX6_countAlone_6 : decode cX6_countAlone 6 = .ok (.getfield 18, 3) := by decide +kernel
theorem dX6_countAlone_9 : decode cX6_countAlone 9 = .ok (.if_icmp .ge 22, 3) := by decide +kernel
theorem dX6_countAlone_12 : decode cX6_countAlone 12 = .ok (.aload_n 0, 1) := by decide +kernel
theorem dX6_countAlone_13 : decode cX6_countAlone 13 = .ok (.getfield 29, 3) := by decide +kernel
theorem dX6_countAlone_16 : decode cX6_countAlone 16 = .ok (.iload_n 2, 1) := by decide +kernel
theorem dX6_countAlone_17 : decode cX6_countAlone 17 = .ok (.iaload, 1) := by decide +kernel
theorem dX6_countAlone_18 : decode cX6_countAlone 18 = .ok (.iconst 1, 1) := by decide +kernel
theorem dX6_countAlone_19 : decode cX6_countAlone 19 = .ok (.if_icmp .ne 6, 3) := by decide +kernel
theorem dX6_countAlone_22 : decode cX6_countAlone 22 = .ok (.iinc 1 1, 3) := by decide +kernel
theorem dX6_countAlone_25 : decode cX6_countAlone 25 = .ok (.iinc 2 1, 3) := by decide +kernel
theorem dX6_countAlone_28 : decode cX6_countAlone 28 = .ok (.goto (-24), 3) := by decide +kernel
theorem dX6_countAlone_31 : decode cX6_countAlone 31 = .ok (.iload_n 1, 1) := by decide +kernel
theorem dX6_countAlone_32 : decode cX6_countAlone 32 = .ok (.ireturn, 1) := by decide +kernel
theorem dX6_powerSort_0 : decode cX6_powerSort 0 = .ok (.aload_n 0, 1) := by decide +kernel
theorem dX6_powerSort_1 : decode cX6_powerSort 1 = .ok (.getfield 32, 3) := by decide +kernel
theorem dX6_powerSort_4 : decode cX6_powerSort 4 = .ok (.iload_n 1, 1) := by decide +kernel
theorem dX6_powerSort_5 : decode cX6_powerSort 5 = .ok (.iaload, 1) := by decide +kernel
theorem dX6_powerSort_6 : decode cX6_powerSort 6 = .ok (.ifCond .le 24, 3) := by decide +kernel
theorem dX6_powerSort_9 : decode cX6_powerSort 9 = .ok (.aload_n 0, 1) := by decide +kernel
theorem dX6_powerSort_10 : decode cX6_powerSort 10 = .ok (.getfield 47, 3) := by decide +kernel
theorem dX6_powerSort_13 : decode cX6_powerSort 13 = .ok (.iload_n 1, 1) := by decide +kernel
theorem dX6_powerSort_14 : decode cX6_powerSort 14 = .ok (.bipush 6, 2) := by decide +kernel
theorem dX6_powerSort_16 : decode cX6_powerSort 16 = .ok (.imul, 1) := by decide +kernel
theorem dX6_powerSort_17 : decode cX6_powerSort 17 = .ok (.iload_n 2, 1) := by decide +kernel
theorem dX6_powerSort_18 : decode cX6_powerSort 18 = .ok (.aload_n 0, 1) := by decide +kernel
theorem dX6_powerSort_19 : decode cX6_powerSort 19 = .ok (.getfield 32, 3) := by decide +kernel
theorem dX6_powerSort_22 : decode cX6_powerSort 22 = .ok (.iload_n 1, 1) := by decide +kernel
theorem dX6_powerSort_23 : decode cX6_powerSort 23 = .ok (.iaload, 1) := by decide +kernel
theorem dX6_powerSort_24 : decode cX6_powerSort 24 = .ok (.irem, 1) := by decide +kernel
theorem dX6_powerSort_25 : decode cX6_powerSort 25 = .ok (.iadd, 1) := by decide +kernel
theorem dX6_powerSort_26 : decode cX6_powerSort 26 = .ok (.iaload, 1) := by decide +kernel
theorem dX6_powerSort_27 : decode cX6_powerSort 27 = .ok (.goto 4, 3) := by decide +kernel
theorem dX6_powerSort_30 : decode cX6_powerSort 30 = .ok (.iconst 0, 1) := by decide +kernel
theorem dX6_powerSort_31 : decode cX6_powerSort 31 = .ok (.ireturn, 1) := by decide +kernel
theorem dX6_gather_0 : decode cX6_gather 0 = .ok (.iconst 0, 1) := by decide +kernel
theorem dX6_gather_1 : decode cX6_gather 1 = .ok (.istore_n 3, 1) := by decide +kernel
theorem dX6_gather_2 : decode cX6_gather 2 = .ok (.iconst 0, 1) := by decide +kernel
theorem dX6_gather_3 : decode cX6_gather 3 = .ok (.istore 4, 2) := by decide +kernel
theorem dX6_gather_5 : decode cX6_gather 5 = .ok (.iload 4, 2) := by decide +kernel
theorem dX6_gather_7 : decode cX6_gather 7 = .ok (.aload_n 0, 1) := by decide +kernel
theorem dX6_gather_8 : decode cX6_gather 8 = .ok (.getfield 12, 3) := by decide +kernel
theorem dX6_gather_11 : decode cX6_gather 11 = .ok (.getfield 56, 3) := by decide +kernel
theorem dX6_gather_14 : decode cX6_gather 14 = .ok (.if_icmp .ge 43, 3) := by decide +kernel
theorem dX6_gather_17 : decode cX6_gather 17 = .ok (.aload_n 0, 1) := by decide +kernel
theorem dX6_gather_18 : decode cX6_gather 18 = .ok (.getfield 12, 3) := by decide +kernel
theorem dX6_gather_21 : decode cX6_gather 21 = .ok (.iload 4, 2) := by decide +kernel
theorem dX6_gather_23 : decode cX6_gather 23 = .ok (.iload_n 1, 1) := by decide +kernel
theorem dX6_gather_24 : decode cX6_gather 24 = .ok (.invokevirtual 77, 3) := by decide +kernel
theorem dX6_gather_27 : decode cX6_gather 27 = .ok (.istore 5, 2) := by decide +kernel
theorem dX6_gather_29 : decode cX6_gather 29 = .ok (.aload_n 0, 1) := by decide +kernel
theorem dX6_gather_30 : decode cX6_gather 30 = .ok (.getfield 25, 3) := by decide +kernel
theorem dX6_gather_33 : decode cX6_gather 33 = .ok (.iload 5, 2) := by decide +kernel
theorem dX6_gather_35 : decode cX6_gather 35 = .ok (.iaload, 1) := by decide +kernel
theorem dX6_gather_36 : decode cX6_gather 36 = .ok (.iconst (-1), 1) := by decide +kernel
theorem dX6_gather_37 : decode cX6_gather 37 = .ok (.if_icmp .ne 14, 3) := by decide +kernel
theorem dX6_gather_40 : decode cX6_gather 40 = .ok (.aload_n 0, 1) := by decide +kernel
theorem dX6_gather_41 : decode cX6_gather 41 = .ok (.getfield 25, 3) := by decide +kernel
theorem dX6_gather_44 : decode cX6_gather 44 = .ok (.iload 5, 2) := by decide +kernel
theorem dX6_gather_46 : decode cX6_gather 46 = .ok (.iload_n 2, 1) := by decide +kernel
theorem dX6_gather_47 : decode cX6_gather 47 = .ok (.iastore, 1) := by decide +kernel
theorem dX6_gather_48 : decode cX6_gather 48 = .ok (.iinc 3 1, 3) := by decide +kernel
theorem dX6_gather_51 : decode cX6_gather 51 = .ok (.iinc 4 1, 3) := by decide +kernel
theorem dX6_gather_54 : decode cX6_gather 54 = .ok (.goto (-49), 3) := by decide +kernel
theorem dX6_gather_57 : decode cX6_gather 57 = .ok (.iload_n 3, 1) := by decide +kernel
theorem dX6_gather_58 : decode cX6_gather 58 = .ok (.ireturn, 1) := by decide +kernel
theorem dX6_findPowers_0 : decode cX6_findPowers 0 = .ok (.iconst 0, 1) := by decide +kernel
theorem dX6_findPowers_1 : decode cX6_findPowers 1 = .ok (.istore_n 2, 1) := by decide +kernel
theorem dX6_findPowers_2 : decode cX6_findPowers 2 = .ok (.aload_n 0, 1) := by decide +kernel
theorem dX6_findPowers_3 : decode cX6_findPowers 3 = .ok (.getfield 32, 3) := by decide +kernel
theorem dX6_findPowers_6 : decode cX6_findPowers 6 = .ok (.iload_n 1, 1) := by decide +kernel
theorem dX6_findPowers_7 : decode cX6_findPowers 7 = .ok (.iconst 0, 1) := by decide +kernel
theorem dX6_findPowers_8 : decode cX6_findPowers 8 = .ok (.iastore, 1) := by decide +kernel
theorem dX6_findPowers_9 : decode cX6_findPowers 9 = .ok (.iconst 0, 1) := by decide +kernel
theorem dX6_findPowers_10 : decode cX6_findPowers 10 = .ok (.istore_n 3, 1) := by decide +kernel
theorem dX6_findPowers_11 : decode cX6_findPowers 11 = .ok (.iload_n 3, 1) := by decide +kernel
theorem dX6_findPowers_12 : decode cX6_findPowers 12 = .ok (.bipush 6, 2) := by decide +kernel
theorem dX6_findPowers_14 : decode cX6_findPowers 14 = .ok (.if_icmp .ge 58, 3) := by decide +kernel
theorem dX6_findPowers_17 : decode cX6_findPowers 17 = .ok (.iload_n 3, 1) := by decide +kernel
theorem dX6_findPowers_18 : decode cX6_findPowers 18 = .ok (.ifCond .eq 7, 3) := by decide +kernel
theorem dX6_findPowers_21 : decode cX6_findPowers 21 = .ok (.iload_n 2, 1) := by decide +kernel
theorem dX6_findPowers_22 : decode cX6_findPowers 22 = .ok (.ifCond .eq 50, 3) := by decide +kernel
theorem dX6_findPowers_25 : decode cX6_findPowers 25 = .ok (.aload_n 0, 1) := by decide +kernel
theorem dX6_findPowers_26 : decode cX6_findPowers 26 = .ok (.getfield 47, 3) := by decide +kernel
theorem dX6_findPowers_29 : decode cX6_findPowers 29 = .ok (.iload_n 1, 1) := by decide +kernel
theorem dX6_findPowers_30 : decode cX6_findPowers 30 = .ok (.bipush 6, 2) := by decide +kernel
theorem dX6_findPowers_32 : decode cX6_findPowers 32 = .ok (.imul, 1) := by decide +kernel
theorem dX6_findPowers_33 : decode cX6_findPowers 33 = .ok (.iload_n 3, 1) := by decide +kernel
theorem dX6_findPowers_34 : decode cX6_findPowers 34 = .ok (.iadd, 1) := by decide +kernel
theorem dX6_findPowers_35 : decode cX6_findPowers 35 = .ok (.aload_n 0, 1) := by decide +kernel
theorem dX6_findPowers_36 : decode cX6_findPowers 36 = .ok (.getfield 25, 3) := by decide +kernel
theorem dX6_findPowers_39 : decode cX6_findPowers 39 = .ok (.iload_n 2, 1) := by decide +kernel
theorem dX6_findPowers_40 : decode cX6_findPowers 40 = .ok (.iaload, 1) := by decide +kernel
theorem dX6_findPowers_41 : decode cX6_findPowers 41 = .ok (.iastore, 1) := by decide +kernel
theorem dX6_findPowers_42 : decode cX6_findPowers 42 = .ok (.aload_n 0, 1) := by decide +kernel
theorem dX6_findPowers_43 : decode cX6_findPowers 43 = .ok (.getfield 12, 3) := by decide +kernel
theorem dX6_findPowers_46 : decode cX6_findPowers 46 = .ok (.iload_n 2, 1) := by decide +kernel
theorem dX6_findPowers_47 : decode cX6_findPowers 47 = .ok (.aload_n 0, 1) := by decide +kernel
theorem dX6_findPowers_48 : decode cX6_findPowers 48 = .ok (.getfield 35, 3) := by decide +kernel
theorem dX6_findPowers_51 : decode cX6_findPowers 51 = .ok (.iload_n 1, 1) := by decide +kernel
theorem dX6_findPowers_52 : decode cX6_findPowers 52 = .ok (.iaload, 1) := by decide +kernel
theorem dX6_findPowers_53 : decode cX6_findPowers 53 = .ok (.invokevirtual 80, 3) := by decide +kernel
theorem dX6_findPowers_56 : decode cX6_findPowers 56 = .ok (.istore_n 2, 1) := by decide +kernel
theorem dX6_findPowers_57 : decode cX6_findPowers 57 = .ok (.aload_n 0, 1) := by decide +kernel
theorem dX6_findPowers_58 : decode cX6_findPowers 58 = .ok (.getfield 32, 3) := by decide +kernel
theorem dX6_findPowers_61 : decode cX6_findPowers 61 = .ok (.iload_n 1, 1) := by decide +kernel
theorem dX6_findPowers_62 : decode cX6_findPowers 62 = .ok (.iload_n 3, 1) := by decide +kernel
theorem dX6_findPowers_63 : decode cX6_findPowers 63 = .ok (.iconst 1, 1) := by decide +kernel
theorem dX6_findPowers_64 : decode cX6_findPowers 64 = .ok (.iadd, 1) := by decide +kernel
theorem dX6_findPowers_65 : decode cX6_findPowers 65 = .ok (.iastore, 1) := by decide +kernel
theorem dX6_findPowers_66 : decode cX6_findPowers 66 = .ok (.iinc 3 1, 3) := by decide +kernel
theorem dX6_findPowers_69 : decode cX6_findPowers 69 = .ok (.goto (-58), 3) := by decide +kernel
theorem dX6_findPowers_72 : decode cX6_findPowers 72 = .ok (.return_, 1) := by decide +kernel
theorem dX6_leastShared_0 : decode cX6_leastShared 0 = .ok (.iload_n 0, 1) := by decide +kernel
theorem dX6_leastShared_1 : decode cX6_leastShared 1 = .ok (.istore_n 2, 1) := by decide +kernel
theorem dX6_leastShared_2 : decode cX6_leastShared 2 = .ok (.iconst 1, 1) := by decide +kernel
theorem dX6_leastShared_3 : decode cX6_leastShared 3 = .ok (.istore_n 3, 1) := by decide +kernel
theorem dX6_leastShared_4 : decode cX6_leastShared 4 = .ok (.iload_n 3, 1) := by decide +kernel
theorem dX6_leastShared_5 : decode cX6_leastShared 5 = .ok (.iload_n 1, 1) := by decide +kernel
theorem dX6_leastShared_6 : decode cX6_leastShared 6 = .ok (.if_icmp .ge 23, 3) := by decide +kernel
theorem dX6_leastShared_9 : decode cX6_leastShared 9 = .ok (.iload_n 1, 1) := by decide +kernel
theorem dX6_leastShared_10 : decode cX6_leastShared 10 = .ok (.ifCond .le 19, 3) := by decide +kernel
theorem dX6_leastShared_13 : decode cX6_leastShared 13 = .ok (.iload_n 2, 1) := by decide +kernel
theorem dX6_leastShared_14 : decode cX6_leastShared 14 = .ok (.iload_n 1, 1) := by decide +kernel
theorem dX6_leastShared_15 : decode cX6_leastShared 15 = .ok (.irem, 1) := by decide +kernel
theorem dX6_leastShared_16 : decode cX6_leastShared 16 = .ok (.ifCond .eq 13, 3) := by decide +kernel
theorem dX6_leastShared_19 : decode cX6_leastShared 19 = .ok (.iload_n 2, 1) := by decide +kernel
theorem dX6_leastShared_20 : decode cX6_leastShared 20 = .ok (.iload_n 0, 1) := by decide +kernel
theorem dX6_leastShared_21 : decode cX6_leastShared 21 = .ok (.iadd, 1) := by decide +kernel
theorem dX6_leastShared_22 : decode cX6_leastShared 22 = .ok (.istore_n 2, 1) := by decide +kernel
theorem dX6_leastShared_23 : decode cX6_leastShared 23 = .ok (.iinc 3 1, 3) := by decide +kernel
theorem dX6_leastShared_26 : decode cX6_leastShared 26 = .ok (.goto (-22), 3) := by decide +kernel
theorem dX6_leastShared_29 : decode cX6_leastShared 29 = .ok (.iload_n 2, 1) := by decide +kernel
theorem dX6_leastShared_30 : decode cX6_leastShared 30 = .ok (.ireturn, 1) := by decide +kernel
theorem dX6_countPairs_0 : decode cX6_countPairs 0 = .ok (.aload_n 0, 1) := by decide +kernel
theorem dX6_countPairs_1 : decode cX6_countPairs 1 = .ok (.getfield 44, 3) := by decide +kernel
theorem dX6_countPairs_4 : decode cX6_countPairs 4 = .ok (.iconst 0, 1) := by decide +kernel
theorem dX6_countPairs_5 : decode cX6_countPairs 5 = .ok (.invokestatic 50, 3) := by decide +kernel
theorem dX6_countPairs_8 : decode cX6_countPairs 8 = .ok (.iconst 0, 1) := by decide +kernel
theorem dX6_countPairs_9 : decode cX6_countPairs 9 = .ok (.istore_n 1, 1) := by decide +kernel
theorem dX6_countPairs_10 : decode cX6_countPairs 10 = .ok (.iload_n 1, 1) := by decide +kernel
theorem dX6_countPairs_11 : decode cX6_countPairs 11 = .ok (.aload_n 0, 1) := by decide +kernel
theorem dX6_countPairs_12 : decode cX6_countPairs 12 = .ok (.getfield 18, 3) := by decide +kernel
theorem dX6_countPairs_15 : decode cX6_countPairs 15 = .ok (.if_icmp .ge 76, 3) := by decide +kernel
theorem dX6_countPairs_18 : decode cX6_countPairs 18 = .ok (.iconst 0, 1) := by decide +kernel
theorem dX6_countPairs_19 : decode cX6_countPairs 19 = .ok (.istore_n 2, 1) := by decide +kernel
theorem dX6_countPairs_20 : decode cX6_countPairs 20 = .ok (.iload_n 2, 1) := by decide +kernel
theorem dX6_countPairs_21 : decode cX6_countPairs 21 = .ok (.aload_n 0, 1) := by decide +kernel
theorem dX6_countPairs_22 : decode cX6_countPairs 22 = .ok (.getfield 12, 3) := by decide +kernel
theorem dX6_countPairs_25 : decode cX6_countPairs 25 = .ok (.getfield 56, 3) := by decide +kernel
theorem dX6_countPairs_28 : decode cX6_countPairs 28 = .ok (.if_icmp .ge 57, 3) := by decide +kernel
theorem dX6_countPairs_31 : decode cX6_countPairs 31 = .ok (.aload_n 0, 1) := by decide +kernel
theorem dX6_countPairs_32 : decode cX6_countPairs 32 = .ok (.getfield 12, 3) := by decide +kernel
theorem dX6_countPairs_35 : decode cX6_countPairs 35 = .ok (.aload_n 0, 1) := by decide +kernel
theorem dX6_countPairs_36 : decode cX6_countPairs 36 = .ok (.getfield 12, 3) := by decide +kernel
theorem dX6_countPairs_39 : decode cX6_countPairs 39 = .ok (.getfield 63, 3) := by decide +kernel
theorem dX6_countPairs_42 : decode cX6_countPairs 42 = .ok (.iload_n 2, 1) := by decide +kernel
theorem dX6_countPairs_43 : decode cX6_countPairs 43 = .ok (.iaload, 1) := by decide +kernel
theorem dX6_countPairs_44 : decode cX6_countPairs 44 = .ok (.aload_n 0, 1) := by decide +kernel
theorem dX6_countPairs_45 : decode cX6_countPairs 45 = .ok (.getfield 35, 3) := by decide +kernel
theorem dX6_countPairs_48 : decode cX6_countPairs 48 = .ok (.iload_n 1, 1) := by decide +kernel
theorem dX6_countPairs_49 : decode cX6_countPairs 49 = .ok (.iaload, 1) := by decide +kernel
theorem dX6_countPairs_50 : decode cX6_countPairs 50 = .ok (.invokevirtual 80, 3) := by decide +kernel
theorem dX6_countPairs_53 : decode cX6_countPairs 53 = .ok (.istore_n 3, 1) := by decide +kernel
theorem dX6_countPairs_54 : decode cX6_countPairs 54 = .ok (.aload_n 0, 1) := by decide +kernel
theorem dX6_countPairs_55 : decode cX6_countPairs 55 = .ok (.getfield 44, 3) := by decide +kernel
theorem dX6_countPairs_58 : decode cX6_countPairs 58 = .ok (.aload_n 0, 1) := by decide +kernel
theorem dX6_countPairs_59 : decode cX6_countPairs 59 = .ok (.getfield 25, 3) := by decide +kernel
theorem dX6_countPairs_62 : decode cX6_countPairs 62 = .ok (.iload_n 2, 1) := by decide +kernel
theorem dX6_countPairs_63 : decode cX6_countPairs 63 = .ok (.iaload, 1) := by decide +kernel
theorem dX6_countPairs_64 : decode cX6_countPairs 64 = .ok (.aload_n 0, 1) := by decide +kernel
theorem dX6_countPairs_65 : decode cX6_countPairs 65 = .ok (.getfield 25, 3) := by decide +kernel
theorem dX6_countPairs_68 : decode cX6_countPairs 68 = .ok (.iload_n 3, 1) := by decide +kernel
theorem dX6_countPairs_69 : decode cX6_countPairs 69 = .ok (.iaload, 1) := by decide +kernel
theorem dX6_countPairs_70 : decode cX6_countPairs 70 = .ok (.iload_n 1, 1) := by decide +kernel
theorem dX6_countPairs_71 : decode cX6_countPairs 71 = .ok (.invokestatic 83, 3) := by decide +kernel
theorem dX6_countPairs_74 : decode cX6_countPairs 74 = .ok (.dup2, 1) := by decide +kernel
theorem dX6_countPairs_75 : decode cX6_countPairs 75 = .ok (.iaload, 1) := by decide +kernel
theorem dX6_countPairs_76 : decode cX6_countPairs 76 = .ok (.iconst 1, 1) := by decide +kernel
theorem dX6_countPairs_77 : decode cX6_countPairs 77 = .ok (.iadd, 1) := by decide +kernel
theorem dX6_countPairs_78 : decode cX6_countPairs 78 = .ok (.iastore, 1) := by decide +kernel
theorem dX6_countPairs_79 : decode cX6_countPairs 79 = .ok (.iinc 2 1, 3) := by decide +kernel
theorem dX6_countPairs_82 : decode cX6_countPairs 82 = .ok (.goto (-62), 3) := by decide +kernel
theorem dX6_countPairs_85 : decode cX6_countPairs 85 = .ok (.iinc 1 1, 3) := by decide +kernel
theorem dX6_countPairs_88 : decode cX6_countPairs 88 = .ok (.goto (-78), 3) := by decide +kernel
theorem dX6_countPairs_91 : decode cX6_countPairs 91 = .ok (.return_, 1) := by decide +kernel
