theorem dX7_init_0 : decode cX7_init 0 = .ok (.aload_n 0, 1) := by decide +kernel
theorem dX7_init_1 : decode cX7_init 1 = .ok (.invokespecial 3, 3) := by decide +kernel
theorem dX7_init_4 : decode cX7_init 4 = .ok (.aload_n 0, 1) := by decide +kernel
theorem dX7_init_5 : decode cX7_init 5 = .ok (.bipush 7, 2) := by decide +kernel
theorem dX7_init_7 : decode cX7_init 7 = .ok (.bipush 7, 2) := by decide +kernel
theorem dX7_init_9 : decode cX7_init 9 = .ok (.multianewarray 9 2, 4) := by decide +kernel
theorem dX7_init_13 : decode cX7_init 13 = .ok (.putfield 11, 3) := by decide +kernel
theorem dX7_init_16 : decode cX7_init 16 = .ok (.aload_n 0, 1) := by decide +kernel
theorem dX7_init_17 : decode cX7_init 17 = .ok (.bipush 7, 2) := by decide +kernel
theorem dX7_init_19 : decode cX7_init 19 = .ok (.bipush 7, 2) := by decide +kernel
theorem dX7_init_21 : decode cX7_init 21 = .ok (.multianewarray 9 2, 4) := by decide +kernel
theorem dX7_init_25 : decode cX7_init 25 = .ok (.putfield 16, 3) := by decide +kernel
theorem dX7_init_28 : decode cX7_init 28 = .ok (.aload_n 0, 1) := by decide +kernel
theorem dX7_init_29 : decode cX7_init 29 = .ok (.bipush 8, 2) := by decide +kernel
theorem dX7_init_31 : decode cX7_init 31 = .ok (.newarray .int, 2) := by decide +kernel
theorem dX7_init_33 : decode cX7_init 33 = .ok (.putfield 19, 3) := by decide +kernel
theorem dX7_init_36 : decode cX7_init 36 = .ok (.aload_n 0, 1) := by decide +kernel
theorem dX7_init_37 : decode cX7_init 37 = .ok (.bipush 8, 2) := by decide +kernel
theorem dX7_init_39 : decode cX7_init 39 = .ok (.newarray .int, 2) := by decide +kernel
theorem dX7_init_41 : decode cX7_init 41 = .ok (.putfield 23, 3) := by decide +kernel
theorem dX7_init_44 : decode cX7_init 44 = .ok (.aload_n 0, 1) := by decide +kernel
theorem dX7_init_45 : decode cX7_init 45 = .ok (.iconst 0, 1) := by decide +kernel
theorem dX7_init_46 : decode cX7_init 46 = .ok (.putfield 26, 3) := by decide +kernel
theorem dX7_init_49 : decode cX7_init 49 = .ok (.aload_n 0, 1) := by decide +kernel
theorem dX7_init_50 : decode cX7_init 50 = .ok (.iconst 0, 1) := by decide +kernel
theorem dX7_init_51 : decode cX7_init 51 = .ok (.putfield 30, 3) := by decide +kernel
theorem dX7_init_54 : decode cX7_init 54 = .ok (.aload_n 0, 1) := by decide +kernel
theorem dX7_init_55 : decode cX7_init 55 = .ok (.iconst 0, 1) := by decide +kernel
theorem dX7_init_56 : decode cX7_init 56 = .ok (.putfield 33, 3) := by decide +kernel
theorem dX7_init_59 : decode cX7_init 59 = .ok (.aload_n 0, 1) := by decide +kernel
theorem dX7_init_60 : decode cX7_init 60 = .ok (.iconst 0, 1) := by decide +kernel
theorem dX7_init_61 : decode cX7_init 61 = .ok (.putfield 36, 3) := by decide +kernel
theorem dX7_init_64 : decode cX7_init 64 = .ok (.aload_n 0, 1) := by decide +kernel
theorem dX7_init_65 : decode cX7_init 65 = .ok (.bipush 7, 2) := by decide +kernel
theorem dX7_init_67 : decode cX7_init 67 = .ok (.bipush 7, 2) := by decide +kernel
theorem dX7_init_69 : decode cX7_init 69 = .ok (.multianewarray 9 2, 4) := by decide +kernel
theorem dX7_init_73 : decode cX7_init 73 = .ok (.putfield 39, 3) := by decide +kernel
theorem dX7_init_76 : decode cX7_init 76 = .ok (.aload_n 0, 1) := by decide +kernel
theorem dX7_init_77 : decode cX7_init 77 = .ok (.bipush 7, 2) := by decide +kernel
theorem dX7_init_79 : decode cX7_init 79 = .ok (.bipush 7, 2) := by decide +kernel
theorem dX7_init_81 : decode cX7_init 81 = .ok (.multianewarray 9 2, 4) := by decide +kernel
theorem dX7_init_85 : decode cX7_init 85 = .ok (.putfield 42, 3) := by decide +kernel
theorem dX7_init_88 : decode cX7_init 88 = .ok (.aload_n 0, 1) := by decide +kernel
theorem dX7_init_89 : decode cX7_init 89 = .ok (.bipush 7, 2) := by decide +kernel
theorem dX7_init_91 : decode cX7_init 91 = .ok (.newarray .int, 2) := by decide +kernel
theorem dX7_init_93 : decode cX7_init 93 = .ok (.putfield 45, 3) := by decide +kernel
theorem dX7_init_96 : decode cX7_init 96 = .ok (.aload_n 0, 1) := by decide +kernel
theorem dX7_init_97 : decode cX7_init 97 = .ok (.bipush 7, 2) := by decide +kernel
theorem dX7_init_99 : decode cX7_init 99 = .ok (.newarray .int, 2) := by decide +kernel
theorem dX7_init_101 : decode cX7_init 101 = .ok (.putfield 48, 3) := by decide +kernel
theorem dX7_init_104 : decode cX7_init 104 = .ok (.return_, 1) := by decide +kernel
theorem dX7_takeApart_0 : decode cX7_takeApart 0 = .ok (.aload_n 0, 1) := by decide +kernel
theorem dX7_takeApart_1 : decode cX7_takeApart 1 = .ok (.aload_n 1, 1) := by decide +kernel
theorem dX7_takeApart_2 : decode cX7_takeApart 2 = .ok (.getfield 51, 3) := by decide +kernel
theorem dX7_takeApart_5 : decode cX7_takeApart 5 = .ok (.invokevirtual 56, 3) := by decide +kernel
theorem dX7_takeApart_8 : decode cX7_takeApart 8 = .ok (.iconst 1, 1) := by decide +kernel
theorem dX7_takeApart_9 : decode cX7_takeApart 9 = .ok (.istore_n 3, 1) := by decide +kernel
theorem dX7_takeApart_10 : decode cX7_takeApart 10 = .ok (.iload_n 3, 1) := by decide +kernel
theorem dX7_takeApart_11 : decode cX7_takeApart 11 = .ok (.aload_n 0, 1) := by decide +kernel
theorem dX7_takeApart_12 : decode cX7_takeApart 12 = .ok (.getfield 36, 3) := by decide +kernel
theorem dX7_takeApart_15 : decode cX7_takeApart 15 = .ok (.if_icmp .ge 61, 3) := by decide +kernel
theorem dX7_takeApart_18 : decode cX7_takeApart 18 = .ok (.aload_n 0, 1) := by decide +kernel
theorem dX7_takeApart_19 : decode cX7_takeApart 19 = .ok (.getfield 26, 3) := by decide +kernel
theorem dX7_takeApart_22 : decode cX7_takeApart 22 = .ok (.aload_n 0, 1) := by decide +kernel
theorem dX7_takeApart_23 : decode cX7_takeApart 23 = .ok (.getfield 36, 3) := by decide +kernel
theorem dX7_takeApart_26 : decode cX7_takeApart 26 = .ok (.if_icmp .ge 50, 3) := by decide +kernel
theorem dX7_takeApart_29 : decode cX7_takeApart 29 = .ok (.aload_n 0, 1) := by decide +kernel
theorem dX7_takeApart_30 : decode cX7_takeApart 30 = .ok (.iconst 0, 1) := by decide +kernel
theorem dX7_takeApart_31 : decode cX7_takeApart 31 = .ok (.putfield 30, 3) := by decide +kernel
theorem dX7_takeApart_34 : decode cX7_takeApart 34 = .ok (.aload_n 0, 1) := by decide +kernel
theorem dX7_takeApart_35 : decode cX7_takeApart 35 = .ok (.iconst 0, 1) := by decide +kernel
theorem dX7_takeApart_36 : decode cX7_takeApart 36 = .ok (.putfield 33, 3) := by decide +kernel
theorem dX7_takeApart_39 : decode cX7_takeApart 39 = .ok (.iconst 0, 1) := by decide +kernel
theorem dX7_takeApart_40 : decode cX7_takeApart 40 = .ok (.istore 4, 2) := by decide +kernel
theorem dX7_takeApart_42 : decode cX7_takeApart 42 = .ok (.iload 4, 2) := by decide +kernel
theorem dX7_takeApart_44 : decode cX7_takeApart 44 = .ok (.aload_n 0, 1) := by decide +kernel
theorem dX7_takeApart_45 : decode cX7_takeApart 45 = .ok (.getfield 26, 3) := by decide +kernel
theorem dX7_takeApart_48 : decode cX7_takeApart 48 = .ok (.if_icmp .ge 18, 3) := by decide +kernel
theorem dX7_takeApart_51 : decode cX7_takeApart 51 = .ok (.aload_n 0, 1) := by decide +kernel
theorem dX7_takeApart_52 : decode cX7_takeApart 52 = .ok (.iload 4, 2) := by decide +kernel
theorem dX7_takeApart_54 : decode cX7_takeApart 54 = .ok (.iload_n 3, 1) := by decide +kernel
theorem dX7_takeApart_55 : decode cX7_takeApart 55 = .ok (.aload_n 1, 1) := by decide +kernel
theorem dX7_takeApart_56 : decode cX7_takeApart 56 = .ok (.aload_n 2, 1) := by decide +kernel
theorem dX7_takeApart_57 : decode cX7_takeApart 57 = .ok (.invokevirtual 60, 3) := by decide +kernel
theorem dX7_takeApart_60 : decode cX7_takeApart 60 = .ok (.iinc 4 1, 3) := by decide +kernel
theorem dX7_takeApart_63 : decode cX7_takeApart 63 = .ok (.goto (-21), 3) := by decide +kernel
theorem dX7_takeApart_66 : decode cX7_takeApart 66 = .ok (.aload_n 0, 1) := by decide +kernel
theorem dX7_takeApart_67 : decode cX7_takeApart 67 = .ok (.invokevirtual 64, 3) := by decide +kernel
theorem dX7_takeApart_70 : decode cX7_takeApart 70 = .ok (.iinc 3 1, 3) := by decide +kernel
theorem dX7_takeApart_73 : decode cX7_takeApart 73 = .ok (.goto (-63), 3) := by decide +kernel
theorem dX7_takeApart_76 : decode cX7_takeApart 76 = .ok (.return_, 1) := by decide +kernel
theorem dX7_copyLine_0 : decode cX7_copyLine 0 = .ok (.iconst 0, 1) := by decide +kernel
theorem dX7_copyLine_1 : decode cX7_copyLine 1 = .ok (.istore 4, 2) := by decide +kernel
theorem dX7_copyLine_3 : decode cX7_copyLine 3 = .ok (.iload 4, 2) := by decide +kernel
theorem dX7_copyLine_5 : decode cX7_copyLine 5 = .ok (.aload_n 0, 1) := by decide +kernel
theorem dX7_copyLine_6 : decode cX7_copyLine 6 = .ok (.getfield 36, 3) := by decide +kernel
theorem dX7_copyLine_9 : decode cX7_copyLine 9 = .ok (.if_icmp .ge 34, 3) := by decide +kernel
theorem dX7_copyLine_12 : decode cX7_copyLine 12 = .ok (.aload_n 2, 1) := by decide +kernel
theorem dX7_copyLine_13 : decode cX7_copyLine 13 = .ok (.iload 4, 2) := by decide +kernel
theorem dX7_copyLine_15 : decode cX7_copyLine 15 = .ok (.aload_n 3, 1) := by decide +kernel
theorem dX7_copyLine_16 : decode cX7_copyLine 16 = .ok (.aload_n 0, 1) := by decide +kernel
theorem dX7_copyLine_17 : decode cX7_copyLine 17 = .ok (.getfield 11, 3) := by decide +kernel
theorem dX7_copyLine_20 : decode cX7_copyLine 20 = .ok (.iload_n 1, 1) := by decide +kernel
theorem dX7_copyLine_21 : decode cX7_copyLine 21 = .ok (.aaload, 1) := by decide +kernel
theorem dX7_copyLine_22 : decode cX7_copyLine 22 = .ok (.iload 4, 2) := by decide +kernel
theorem dX7_copyLine_24 : decode cX7_copyLine 24 = .ok (.iaload, 1) := by decide +kernel
theorem dX7_copyLine_25 : decode cX7_copyLine 25 = .ok (.aload_n 0, 1) := by decide +kernel
theorem dX7_copyLine_26 : decode cX7_copyLine 26 = .ok (.getfield 11, 3) := by decide +kernel
theorem dX7_copyLine_29 : decode cX7_copyLine 29 = .ok (.iload_n 1, 1) := by decide +kernel
theorem dX7_copyLine_30 : decode cX7_copyLine 30 = .ok (.aaload, 1) := by decide +kernel
theorem dX7_copyLine_31 : decode cX7_copyLine 31 = .ok (.iconst 0, 1) := by decide +kernel
theorem dX7_copyLine_32 : decode cX7_copyLine 32 = .ok (.iaload, 1) := by decide +kernel
theorem dX7_copyLine_33 : decode cX7_copyLine 33 = .ok (.invokevirtual 67, 3) := by decide +kernel
theorem dX7_copyLine_36 : decode cX7_copyLine 36 = .ok (.iastore, 1) := by decide +kernel
theorem dX7_copyLine_37 : decode cX7_copyLine 37 = .ok (.iinc 4 1, 3) := by decide +kernel
theorem dX7_copyLine_40 : decode cX7_copyLine 40 = .ok (.goto (-37), 3) := by decide +kernel
theorem dX7_copyLine_43 : decode cX7_copyLine 43 = .ok (.return_, 1) := by decide +kernel
theorem dX7_begin_0 : decode cX7_begin 0 = .ok (.aload_n 0, 1) := by decide +kernel
theorem dX7_begin_1 : decode cX7_begin 1 = .ok (.iload_n 1, 1) := by decide +kernel
theorem dX7_begin_2 : decode cX7_begin 2 = .ok (.putfield 36, 3) := by decide +kernel
theorem dX7_begin_5 : decode cX7_begin 5 = .ok (.iconst 0, 1) := by decide +kernel
theorem dX7_begin_6 : decode cX7_begin 6 = .ok (.istore_n 2, 1) := by decide +kernel
theorem dX7_begin_7 : decode cX7_begin 7 = .ok (.iload_n 2, 1) := by decide +kernel
theorem dX7_begin_8 : decode cX7_begin 8 = .ok (.aload_n 0, 1) := by decide +kernel
theorem dX7_begin_9 : decode cX7_begin 9 = .ok (.getfield 36, 3) := by decide +kernel
theorem dX7_begin_12 : decode cX7_begin 12 = .ok (.if_icmp .ge 28, 3) := by decide +kernel
theorem dX7_begin_15 : decode cX7_begin 15 = .ok (.aload_n 0, 1) := by decide +kernel
theorem dX7_begin_16 : decode cX7_begin 16 = .ok (.getfield 11, 3) := by decide +kernel
theorem dX7_begin_19 : decode cX7_begin 19 = .ok (.iload_n 2, 1) := by decide +kernel
theorem dX7_begin_20 : decode cX7_begin 20 = .ok (.aaload, 1) := by decide +kernel
theorem dX7_begin_21 : decode cX7_begin 21 = .ok (.iconst 0, 1) := by decide +kernel
theorem dX7_begin_22 : decode cX7_begin 22 = .ok (.invokestatic 73, 3) := by decide +kernel
theorem dX7_begin_25 : decode cX7_begin 25 = .ok (.aload_n 0, 1) := by decide +kernel
theorem dX7_begin_26 : decode cX7_begin 26 = .ok (.getfield 11, 3) := by decide +kernel
theorem dX7_begin_29 : decode cX7_begin 29 = .ok (.iload_n 2, 1) := by decide +kernel
theorem dX7_begin_30 : decode cX7_begin 30 = .ok (.aaload, 1) := by decide +kernel
theorem dX7_begin_31 : decode cX7_begin 31 = .ok (.iload_n 2, 1) := by decide +kernel
theorem dX7_begin_32 : decode cX7_begin 32 = .ok (.iconst 1, 1) := by decide +kernel
theorem dX7_begin_33 : decode cX7_begin 33 = .ok (.iastore, 1) := by decide +kernel
theorem dX7_begin_34 : decode cX7_begin 34 = .ok (.iinc 2 1, 3) := by decide +kernel
theorem dX7_begin_37 : decode cX7_begin 37 = .ok (.goto (-30), 3) := by decide +kernel
theorem dX7_begin_40 : decode cX7_begin 40 = .ok (.aload_n 0, 1) := by decide +kernel
theorem dX7_begin_41 : decode cX7_begin 41 = .ok (.iconst 1, 1) := by decide +kernel
theorem dX7_begin_42 : decode cX7_begin 42 = .ok (.putfield 26, 3) := by decide +kernel
theorem dX7_begin_45 : decode cX7_begin 45 = .ok (.aload_n 0, 1) := by decide +kernel
theorem dX7_begin_46 : decode cX7_begin 46 = .ok (.getfield 19, 3) := by decide +kernel
theorem dX7_begin_49 : decode cX7_begin 49 = .ok (.iconst 0, 1) := by decide +kernel
theorem dX7_begin_50 : decode cX7_begin 50 = .ok (.iconst 0, 1) := by decide +kernel
theorem dX7_begin_51 : decode cX7_begin 51 = .ok (.iastore, 1) := by decide +kernel
theorem dX7_begin_52 : decode cX7_begin 52 = .ok (.aload_n 0, 1) := by decide +kernel
theorem dX7_begin_53 : decode cX7_begin 53 = .ok (.getfield 19, 3) := by decide +kernel
theorem dX7_begin_56 : decode cX7_begin 56 = .ok (.iconst 1, 1) := by decide +kernel
theorem dX7_begin_57 : decode cX7_begin 57 = .ok (.aload_n 0, 1) := by decide +kernel
theorem dX7_begin_58 : decode cX7_begin 58 = .ok (.getfield 36, 3) := by decide +kernel
theorem dX7_begin_61 : decode cX7_begin 61 = .ok (.iastore, 1) := by decide +kernel
theorem dX7_begin_62 : decode cX7_begin 62 = .ok (.return_, 1) := by decide +kernel
theorem dX7_takeNext_0 : decode cX7_takeNext 0 = .ok (.aload_n 0, 1) := by decide +kernel
theorem dX7_takeNext_1 : decode cX7_takeNext 1 = .ok (.getfield 11, 3) := by decide +kernel
theorem dX7_takeNext_4 : decode cX7_takeNext 4 = .ok (.astore_n 1, 1) := by decide +kernel
theorem dX7_takeNext_5 : decode cX7_takeNext 5 = .ok (.aload_n 0, 1) := by decide +kernel
theorem dX7_takeNext_6 : decode cX7_takeNext 6 = .ok (.aload_n 0, 1) := by decide +kernel
theorem dX7_takeNext_7 : decode cX7_takeNext 7 = .ok (.getfield 16, 3) := by decide +kernel
theorem dX7_takeNext_10 : decode cX7_takeNext 10 = .ok (.putfield 11, 3) := by decide +kernel
theorem dX7_takeNext_13 : decode cX7_takeNext 13 = .ok (.aload_n 0, 1) := by decide +kernel
theorem dX7_takeNext_14 : decode cX7_takeNext 14 = .ok (.aload_n 1, 1) := by decide +kernel
theorem dX7_takeNext_15 : decode cX7_takeNext 15 = .ok (.putfield 16, 3) := by decide +kernel
theorem dX7_takeNext_18 : decode cX7_takeNext 18 = .ok (.aload_n 0, 1) := by decide +kernel
theorem dX7_takeNext_19 : decode cX7_takeNext 19 = .ok (.getfield 19, 3) := by decide +kernel
theorem dX7_takeNext_22 : decode cX7_takeNext 22 = .ok (.astore_n 2, 1) := by decide +kernel
theorem dX7_takeNext_23 : decode cX7_takeNext 23 = .ok (.aload_n 0, 1) := by decide +kernel
theorem dX7_takeNext_24 : decode cX7_takeNext 24 = .ok (.aload_n 0, 1) := by decide +kernel
theorem dX7_takeNext_25 : decode cX7_takeNext 25 = .ok (.getfield 23, 3) := by decide +kernel
theorem dX7_takeNext_28 : decode cX7_takeNext 28 = .ok (.putfield 19, 3) := by decide +kernel
theorem dX7_takeNext_31 : decode cX7_takeNext 31 = .ok (.aload_n 0, 1) := by decide +kernel
theorem dX7_takeNext_32 : decode cX7_takeNext 32 = .ok (.aload_n 2, 1) := by decide +kernel
theorem dX7_takeNext_33 : decode cX7_takeNext 33 = .ok (.putfield 23, 3) := by decide +kernel
theorem dX7_takeNext_36 : decode cX7_takeNext 36 = .ok (.aload_n 0, 1) := by decide +kernel
theorem dX7_takeNext_37 : decode cX7_takeNext 37 = .ok (.aload_n 0, 1) := by decide +kernel
theorem dX7_takeNext_38 : decode cX7_takeNext 38 = .ok (.getfield 30, 3) := by decide +kernel
theorem dX7_takeNext_41 : decode cX7_takeNext 41 = .ok (.putfield 26, 3) := by decide +kernel
theorem dX7_takeNext_44 : decode cX7_takeNext 44 = .ok (.aload_n 0, 1) := by decide +kernel
theorem dX7_takeNext_45 : decode cX7_takeNext 45 = .ok (.getfield 19, 3) := by decide +kernel
theorem dX7_takeNext_48 : decode cX7_takeNext 48 = .ok (.aload_n 0, 1) := by decide +kernel
theorem dX7_takeNext_49 : decode cX7_takeNext 49 = .ok (.getfield 26, 3) := by decide +kernel
theorem dX7_takeNext_52 : decode cX7_takeNext 52 = .ok (.aload_n 0, 1) := by decide +kernel
theorem dX7_takeNext_53 : decode cX7_takeNext 53 = .ok (.getfield 33, 3) := by decide +kernel
theorem dX7_takeNext_56 : decode cX7_takeNext 56 = .ok (.iastore, 1) := by decide +kernel
theorem dX7_takeNext_57 : decode cX7_takeNext 57 = .ok (.return_, 1) := by decide +kernel
theorem dX7_splitSpace_0 : decode cX7_splitSpace 0 = .ok (.aload_n 0, 1) := by decide +kernel
theorem dX7_splitSpace_1 : decode cX7_splitSpace 1 = .ok (.getfield 19, 3) := by decide +kernel
theorem dX7_splitSpace_4 : decode cX7_splitSpace 4 = .ok (.iload_n 1, 1) := by decide +kernel
theorem dX7_splitSpace_5 : decode cX7_splitSpace 5 = .ok (.iaload, 1) := by decide +kernel
theorem dX7_splitSpace_6 : decode cX7_splitSpace 6 = .ok (.istore 5, 2) := by decide +kernel
theorem dX7_splitSpace_8 : decode cX7_splitSpace 8 = .ok (.aload_n 0, 1) := by decide +kernel
theorem dX7_splitSpace_9 : decode cX7_splitSpace 9 = .ok (.getfield 19, 3) := by decide +kernel
theorem dX7_splitSpace_12 : decode cX7_splitSpace 12 = .ok (.iload_n 1, 1) := by decide +kernel
theorem dX7_splitSpace_13 : decode cX7_splitSpace 13 = .ok (.iconst 1, 1) := by decide +kernel
theorem dX7_splitSpace_14 : decode cX7_splitSpace 14 = .ok (.iadd, 1) := by decide +kernel
theorem dX7_splitSpace_15 : decode cX7_splitSpace 15 = .ok (.iaload, 1) := by decide +kernel
theorem dX7_splitSpace_16 : decode cX7_splitSpace 16 = .ok (.iload 5, 2) := by decide +kernel
theorem dX7_splitSpace_18 : decode cX7_splitSpace 18 = .ok (.isub, 1) := by decide +kernel
theorem dX7_splitSpace_19 : decode cX7_splitSpace 19 = .ok (.istore 6, 2) := by decide +kernel
theorem dX7_splitSpace_21 : decode cX7_splitSpace 21 = .ok (.iload 6, 2) := by decide +kernel
theorem dX7_splitSpace_23 : decode cX7_splitSpace 23 = .ok (.iconst 1, 1) := by decide +kernel
theorem dX7_splitSpace_24 : decode cX7_splitSpace 24 = .ok (.if_icmp .ne 10, 3) := by decide +kernel
theorem dX7_splitSpace_27 : decode cX7_splitSpace 27 = .ok (.aload_n 0, 1) := by decide +kernel
theorem dX7_splitSpace_28 : decode cX7_splitSpace 28 = .ok (.iload 5, 2) := by decide +kernel
theorem dX7_splitSpace_30 : decode cX7_splitSpace 30 = .ok (.invokevirtual 79, 3) := by decide +kernel
theorem dX7_splitSpace_33 : decode cX7_splitSpace 33 = .ok (.return_, 1) := by decide +kernel
theorem dX7_splitSpace_34 : decode cX7_splitSpace 34 = .ok (.aload_n 0, 1) := by decide +kernel
theorem dX7_splitSpace_35 : decode cX7_splitSpace 35 = .ok (.aload_n 0, 1) := by decide +kernel
theorem dX7_splitSpace_36 : decode cX7_splitSpace 36 = .ok (.getfield 11, 3) := by decide +kernel
theorem dX7_splitSpace_39 : decode cX7_splitSpace 39 = .ok (.iload 5, 2) := by decide +kernel
theorem dX7_splitSpace_41 : decode cX7_splitSpace 41 = .ok (.iload 6, 2) := by decide +kernel
theorem dX7_splitSpace_43 : decode cX7_splitSpace 43 = .ok (.aload_n 0, 1) := by decide +kernel
theorem dX7_splitSpace_44 : decode cX7_splitSpace 44 = .ok (.getfield 36, 3) := by decide +kernel
theorem dX7_splitSpace_47 : decode cX7_splitSpace 47 = .ok (.aload 4, 2) := by decide +kernel
theorem dX7_splitSpace_49 : decode cX7_splitSpace 49 = .ok (.invokevirtual 82, 3) := by decide +kernel
theorem dX7_splitSpace_52 : decode cX7_splitSpace 52 = .ok (.pop, 1) := by decide +kernel
theorem dX7_splitSpace_53 : decode cX7_splitSpace 53 = .ok (.aload_n 0, 1) := by decide +kernel
theorem dX7_splitSpace_54 : decode cX7_splitSpace 54 = .ok (.iload 5, 2) := by decide +kernel
theorem dX7_splitSpace_56 : decode cX7_splitSpace 56 = .ok (.iload 6, 2) := by decide +kernel
theorem dX7_splitSpace_58 : decode cX7_splitSpace 58 = .ok (.iload_n 2, 1) := by decide +kernel
theorem dX7_splitSpace_59 : decode cX7_splitSpace 59 = .ok (.aload_n 3, 1) := by decide +kernel
theorem dX7_splitSpace_60 : decode cX7_splitSpace 60 = .ok (.aload 4, 2) := by decide +kernel
theorem dX7_splitSpace_62 : decode cX7_splitSpace 62 = .ok (.invokevirtual 86, 3) := by decide +kernel
theorem dX7_splitSpace_65 : decode cX7_splitSpace 65 = .ok (.aload_n 0, 1) := by decide +kernel
theorem dX7_splitSpace_66 : decode cX7_splitSpace 66 = .ok (.getfield 33, 3) := by decide +kernel
theorem dX7_splitSpace_69 : decode cX7_splitSpace 69 = .ok (.iload 6, 2) := by decide +kernel
theorem dX7_splitSpace_71 : decode cX7_splitSpace 71 = .ok (.iadd, 1) := by decide +kernel
theorem dX7_splitSpace_72 : decode cX7_splitSpace 72 = .ok (.istore 7, 2) := by decide +kernel
theorem dX7_splitSpace_74 : decode cX7_splitSpace 74 = .ok (.iconst 0, 1) := by decide +kernel
theorem dX7_splitSpace_75 : decode cX7_splitSpace 75 = .ok (.istore 8, 2) := by decide +kernel
theorem dX7_splitSpace_77 : decode cX7_splitSpace 77 = .ok (.iload 8, 2) := by decide +kernel
theorem dX7_splitSpace_79 : decode cX7_splitSpace 79 = .ok (.aload 4, 2) := by decide +kernel
theorem dX7_splitSpace_81 : decode cX7_splitSpace 81 = .ok (.getfield 90, 3) := by decide +kernel
theorem dX7_splitSpace_84 : decode cX7_splitSpace 84 = .ok (.if_icmp .ge 98, 3) := by decide +kernel
theorem dX7_splitSpace_87 : decode cX7_splitSpace 87 = .ok (.aload_n 0, 1) := by decide +kernel
theorem dX7_splitSpace_88 : decode cX7_splitSpace 88 = .ok (.getfield 33, 3) := by decide +kernel
theorem dX7_splitSpace_91 : decode cX7_splitSpace 91 = .ok (.iload 7, 2) := by decide +kernel
theorem dX7_splitSpace_93 : decode cX7_splitSpace 93 = .ok (.if_icmp .ge 89, 3) := by decide +kernel
theorem dX7_splitSpace_96 : decode cX7_splitSpace 96 = .ok (.aload_n 0, 1) := by decide +kernel
theorem dX7_splitSpace_97 : decode cX7_splitSpace 97 = .ok (.iload 6, 2) := by decide +kernel
theorem dX7_splitSpace_99 : decode cX7_splitSpace 99 = .ok (.iload 8, 2) := by decide +kernel
theorem dX7_splitSpace_101 : decode cX7_splitSpace 101 = .ok (.aload 4, 2) := by decide +kernel
theorem dX7_splitSpace_103 : decode cX7_splitSpace 103 = .ok (.invokevirtual 93, 3) := by decide +kernel
theorem dX7_splitSpace_106 : decode cX7_splitSpace 106 = .ok (.aload_n 0, 1) := by decide +kernel
theorem dX7_splitSpace_107 : decode cX7_splitSpace 107 = .ok (.aload_n 0, 1) := by decide +kernel
theorem dX7_splitSpace_108 : decode cX7_splitSpace 108 = .ok (.getfield 42, 3) := by decide +kernel
theorem dX7_splitSpace_111 : decode cX7_splitSpace 111 = .ok (.iconst 0, 1) := by decide +kernel
theorem dX7_splitSpace_112 : decode cX7_splitSpace 112 = .ok (.iload 6, 2) := by decide +kernel
theorem dX7_splitSpace_114 : decode cX7_splitSpace 114 = .ok (.iload 6, 2) := by decide +kernel
theorem dX7_splitSpace_116 : decode cX7_splitSpace 116 = .ok (.aload 4, 2) := by decide +kernel
theorem dX7_splitSpace_118 : decode cX7_splitSpace 118 = .ok (.invokevirtual 82, 3) := by decide +kernel
theorem dX7_splitSpace_121 : decode cX7_splitSpace 121 = .ok (.istore 9, 2) := by decide +kernel
theorem dX7_splitSpace_123 : decode cX7_splitSpace 123 = .ok (.iload 9, 2) := by decide +kernel
theorem dX7_splitSpace_125 : decode cX7_splitSpace 125 = .ok (.iload 6, 2) := by decide +kernel
theorem dX7_splitSpace_127 : decode cX7_splitSpace 127 = .ok (.if_icmp .ge 49, 3) := by decide +kernel
theorem dX7_splitSpace_130 : decode cX7_splitSpace 130 = .ok (.aload_n 0, 1) := by decide +kernel
theorem dX7_splitSpace_131 : decode cX7_splitSpace 131 = .ok (.getfield 30, 3) := by decide +kernel
theorem dX7_splitSpace_134 : decode cX7_splitSpace 134 = .ok (.aload_n 0, 1) := by decide +kernel
theorem dX7_splitSpace_135 : decode cX7_splitSpace 135 = .ok (.getfield 36, 3) := by decide +kernel
theorem dX7_splitSpace_138 : decode cX7_splitSpace 138 = .ok (.if_icmp .ge 38, 3) := by decide +kernel
theorem dX7_splitSpace_141 : decode cX7_splitSpace 141 = .ok (.aload_n 0, 1) := by decide +kernel
theorem dX7_splitSpace_142 : decode cX7_splitSpace 142 = .ok (.getfield 23, 3) := by decide +kernel
theorem dX7_splitSpace_145 : decode cX7_splitSpace 145 = .ok (.aload_n 0, 1) := by decide +kernel
theorem dX7_splitSpace_146 : decode cX7_splitSpace 146 = .ok (.getfield 30, 3) := by decide +kernel
theorem dX7_splitSpace_149 : decode cX7_splitSpace 149 = .ok (.aload_n 0, 1) := by decide +kernel
theorem dX7_splitSpace_150 : decode cX7_splitSpace 150 = .ok (.getfield 33, 3) := by decide +kernel
theorem dX7_splitSpace_153 : decode cX7_splitSpace 153 = .ok (.iastore, 1) := by decide +kernel
theorem dX7_splitSpace_154 : decode cX7_splitSpace 154 = .ok (.aload_n 0, 1) := by decide +kernel
theorem dX7_splitSpace_155 : decode cX7_splitSpace 155 = .ok (.dup, 1) := by decide +kernel
theorem dX7_splitSpace_156 : decode cX7_splitSpace 156 = .ok (.getfield 30, 3) := by decide +kernel
theorem dX7_splitSpace_159 : decode cX7_splitSpace 159 = .ok (.iconst 1, 1) := by decide +kernel
theorem dX7_splitSpace_160 : decode cX7_splitSpace 160 = .ok (.iadd, 1) := by decide +kernel
theorem dX7_splitSpace_161 : decode cX7_splitSpace 161 = .ok (.putfield 30, 3) := by decide +kernel
theorem dX7_splitSpace_164 : decode cX7_splitSpace 164 = .ok (.aload_n 0, 1) := by decide +kernel
theorem dX7_splitSpace_165 : decode cX7_splitSpace 165 = .ok (.iload 5, 2) := by decide +kernel
theorem dX7_splitSpace_167 : decode cX7_splitSpace 167 = .ok (.iload 6, 2) := by decide +kernel
theorem dX7_splitSpace_169 : decode cX7_splitSpace 169 = .ok (.iload 9, 2) := by decide +kernel
theorem dX7_splitSpace_171 : decode cX7_splitSpace 171 = .ok (.aload 4, 2) := by decide +kernel
theorem dX7_splitSpace_173 : decode cX7_splitSpace 173 = .ok (.invokevirtual 97, 3) := by decide +kernel
theorem dX7_splitSpace_176 : decode cX7_splitSpace 176 = .ok (.iinc 8 1, 3) := by decide +kernel
theorem dX7_splitSpace_179 : decode cX7_splitSpace 179 = .ok (.goto (-102), 3) := by decide +kernel
theorem dX7_splitSpace_182 : decode cX7_splitSpace 182 = .ok (.return_, 1) := by decide +kernel
theorem dX7_keepLine_0 : decode cX7_keepLine 0 = .ok (.aload_n 0, 1) := by decide +kernel
theorem dX7_keepLine_1 : decode cX7_keepLine 1 = .ok (.getfield 30, 3) := by decide +kernel
theorem dX7_keepLine_4 : decode cX7_keepLine 4 = .ok (.aload_n 0, 1) := by decide +kernel
theorem dX7_keepLine_5 : decode cX7_keepLine 5 = .ok (.getfield 36, 3) := by decide +kernel
theorem dX7_keepLine_8 : decode cX7_keepLine 8 = .ok (.if_icmp .ge 71, 3) := by decide +kernel
theorem dX7_keepLine_11 : decode cX7_keepLine 11 = .ok (.aload_n 0, 1) := by decide +kernel
theorem dX7_keepLine_12 : decode cX7_keepLine 12 = .ok (.getfield 33, 3) := by decide +kernel
theorem dX7_keepLine_15 : decode cX7_keepLine 15 = .ok (.aload_n 0, 1) := by decide +kernel
theorem dX7_keepLine_16 : decode cX7_keepLine 16 = .ok (.getfield 36, 3) := by decide +kernel
theorem dX7_keepLine_19 : decode cX7_keepLine 19 = .ok (.if_icmp .ge 60, 3) := by decide +kernel
theorem dX7_keepLine_22 : decode cX7_keepLine 22 = .ok (.aload_n 0, 1) := by decide +kernel
theorem dX7_keepLine_23 : decode cX7_keepLine 23 = .ok (.getfield 23, 3) := by decide +kernel
theorem dX7_keepLine_26 : decode cX7_keepLine 26 = .ok (.aload_n 0, 1) := by decide +kernel
theorem dX7_keepLine_27 : decode cX7_keepLine 27 = .ok (.getfield 30, 3) := by decide +kernel
theorem dX7_keepLine_30 : decode cX7_keepLine 30 = .ok (.aload_n 0, 1) := by decide +kernel
theorem dX7_keepLine_31 : decode cX7_keepLine 31 = .ok (.getfield 33, 3) := by decide +kernel
theorem dX7_keepLine_34 : decode cX7_keepLine 34 = .ok (.iastore, 1) := by decide +kernel
theorem dX7_keepLine_35 : decode cX7_keepLine 35 = .ok (.aload_n 0, 1) := by decide +kernel
theorem dX7_keepLine_36 : decode cX7_keepLine 36 = .ok (.dup, 1) := by decide +kernel
theorem dX7_keepLine_37 : decode cX7_keepLine 37 = .ok (.getfield 30, 3) := by decide +kernel
theorem dX7_keepLine_40 : decode cX7_keepLine 40 = .ok (.iconst 1, 1) := by decide +kernel
theorem dX7_keepLine_41 : decode cX7_keepLine 41 = .ok (.iadd, 1) := by decide +kernel
theorem dX7_keepLine_42 : decode cX7_keepLine 42 = .ok (.putfield 30, 3) := by decide +kernel
theorem dX7_keepLine_45 : decode cX7_keepLine 45 = .ok (.aload_n 0, 1) := by decide +kernel
theorem dX7_keepLine_46 : decode cX7_keepLine 46 = .ok (.getfield 11, 3) := by decide +kernel
theorem dX7_keepLine_49 : decode cX7_keepLine 49 = .ok (.iload_n 1, 1) := by decide +kernel
theorem dX7_keepLine_50 : decode cX7_keepLine 50 = .ok (.aaload, 1) := by decide +kernel
theorem dX7_keepLine_51 : decode cX7_keepLine 51 = .ok (.iconst 0, 1) := by decide +kernel
theorem dX7_keepLine_52 : decode cX7_keepLine 52 = .ok (.aload_n 0, 1) := by decide +kernel
theorem dX7_keepLine_53 : decode cX7_keepLine 53 = .ok (.getfield 16, 3) := by decide +kernel
theorem dX7_keepLine_56 : decode cX7_keepLine 56 = .ok (.aload_n 0, 1) := by decide +kernel
theorem dX7_keepLine_57 : decode cX7_keepLine 57 = .ok (.getfield 33, 3) := by decide +kernel
theorem dX7_keepLine_60 : decode cX7_keepLine 60 = .ok (.aaload, 1) := by decide +kernel
theorem dX7_keepLine_61 : decode cX7_keepLine 61 = .ok (.iconst 0, 1) := by decide +kernel
theorem dX7_keepLine_62 : decode cX7_keepLine 62 = .ok (.aload_n 0, 1) := by decide +kernel
theorem dX7_keepLine_63 : decode cX7_keepLine 63 = .ok (.getfield 36, 3) := by decide +kernel
theorem dX7_keepLine_66 : decode cX7_keepLine 66 = .ok (.invokestatic 101, 3) := by decide +kernel
theorem dX7_keepLine_69 : decode cX7_keepLine 69 = .ok (.aload_n 0, 1) := by decide +kernel
theorem dX7_keepLine_70 : decode cX7_keepLine 70 = .ok (.dup, 1) := by decide +kernel
theorem dX7_keepLine_71 : decode cX7_keepLine 71 = .ok (.getfield 33, 3) := by decide +kernel
theorem dX7_keepLine_74 : decode cX7_keepLine 74 = .ok (.iconst 1, 1) := by decide +kernel
theorem dX7_keepLine_75 : decode cX7_keepLine 75 = .ok (.iadd, 1) := by decide +kernel
theorem dX7_keepLine_76 : decode cX7_keepLine 76 = .ok (.putfield 33, 3) := by decide +kernel
theorem dX7_keepLine_79 : decode cX7_keepLine 79 = .ok (.return_, 1) := by decide +kernel
theorem dX7_fillAction_0 : decode cX7_fillAction 0 = .ok (.iconst 0, 1) := by decide +kernel
theorem dX7_fillAction_1 : decode cX7_fillAction 1 = .ok (.istore 6, 2) := by decide +kernel
theorem dX7_fillAction_3 : decode cX7_fillAction 3 = .ok (.iload 6, 2) := by decide +kernel
theorem dX7_fillAction_5 : decode cX7_fillAction 5 = .ok (.iload_n 2, 1) := by decide +kernel
theorem dX7_fillAction_6 : decode cX7_fillAction 6 = .ok (.if_icmp .ge 99, 3) := by decide +kernel
theorem dX7_fillAction_9 : decode cX7_fillAction 9 = .ok (.iconst 0, 1) := by decide +kernel
theorem dX7_fillAction_10 : decode cX7_fillAction 10 = .ok (.istore 7, 2) := by decide +kernel
theorem dX7_fillAction_12 : decode cX7_fillAction 12 = .ok (.iload 7, 2) := by decide +kernel
theorem dX7_fillAction_14 : decode cX7_fillAction 14 = .ok (.iload_n 2, 1) := by decide +kernel
theorem dX7_fillAction_15 : decode cX7_fillAction 15 = .ok (.if_icmp .ge 84, 3) := by decide +kernel
theorem dX7_fillAction_18 : decode cX7_fillAction 18 = .ok (.iconst 0, 1) := by decide +kernel
theorem dX7_fillAction_19 : decode cX7_fillAction 19 = .ok (.istore 8, 2) := by decide +kernel
theorem dX7_fillAction_21 : decode cX7_fillAction 21 = .ok (.iconst 0, 1) := by decide +kernel
theorem dX7_fillAction_22 : decode cX7_fillAction 22 = .ok (.istore 9, 2) := by decide +kernel
theorem dX7_fillAction_24 : decode cX7_fillAction 24 = .ok (.iload 9, 2) := by decide +kernel
theorem dX7_fillAction_26 : decode cX7_fillAction 26 = .ok (.aload_n 0, 1) := by decide +kernel
theorem dX7_fillAction_27 : decode cX7_fillAction 27 = .ok (.getfield 36, 3) := by decide +kernel
theorem dX7_fillAction_30 : decode cX7_fillAction 30 = .ok (.if_icmp .ge 46, 3) := by decide +kernel
theorem dX7_fillAction_33 : decode cX7_fillAction 33 = .ok (.iload 8, 2) := by decide +kernel
theorem dX7_fillAction_35 : decode cX7_fillAction 35 = .ok (.aload 4, 2) := by decide +kernel
theorem dX7_fillAction_37 : decode cX7_fillAction 37 = .ok (.getfield 107, 3) := by decide +kernel
theorem dX7_fillAction_40 : decode cX7_fillAction 40 = .ok (.iload_n 3, 1) := by decide +kernel
theorem dX7_fillAction_41 : decode cX7_fillAction 41 = .ok (.aload_n 0, 1) := by decide +kernel
theorem dX7_fillAction_42 : decode cX7_fillAction 42 = .ok (.getfield 45, 3) := by decide +kernel
theorem dX7_fillAction_45 : decode cX7_fillAction 45 = .ok (.iload 7, 2) := by decide +kernel
theorem dX7_fillAction_47 : decode cX7_fillAction 47 = .ok (.iaload, 1) := by decide +kernel
theorem dX7_fillAction_48 : decode cX7_fillAction 48 = .ok (.iload 9, 2) := by decide +kernel
theorem dX7_fillAction_50 : decode cX7_fillAction 50 = .ok (.invokestatic 110, 3) := by decide +kernel
theorem dX7_fillAction_53 : decode cX7_fillAction 53 = .ok (.iaload, 1) := by decide +kernel
theorem dX7_fillAction_54 : decode cX7_fillAction 54 = .ok (.aload_n 0, 1) := by decide +kernel
theorem dX7_fillAction_55 : decode cX7_fillAction 55 = .ok (.getfield 11, 3) := by decide +kernel
theorem dX7_fillAction_58 : decode cX7_fillAction 58 = .ok (.iload_n 1, 1) := by decide +kernel
theorem dX7_fillAction_59 : decode cX7_fillAction 59 = .ok (.iload 6, 2) := by decide +kernel
theorem dX7_fillAction_61 : decode cX7_fillAction 61 = .ok (.iadd, 1) := by decide +kernel
theorem dX7_fillAction_62 : decode cX7_fillAction 62 = .ok (.aaload, 1) := by decide +kernel
theorem dX7_fillAction_63 : decode cX7_fillAction 63 = .ok (.iload 9, 2) := by decide +kernel
theorem dX7_fillAction_65 : decode cX7_fillAction 65 = .ok (.iaload, 1) := by decide +kernel
theorem dX7_fillAction_66 : decode cX7_fillAction 66 = .ok (.imul, 1) := by decide +kernel
theorem dX7_fillAction_67 : decode cX7_fillAction 67 = .ok (.iadd, 1) := by decide +kernel
theorem dX7_fillAction_68 : decode cX7_fillAction 68 = .ok (.istore 8, 2) := by decide +kernel
theorem dX7_fillAction_70 : decode cX7_fillAction 70 = .ok (.iinc 9 1, 3) := by decide +kernel
theorem dX7_fillAction_73 : decode cX7_fillAction 73 = .ok (.goto (-49), 3) := by decide +kernel
theorem dX7_fillAction_76 : decode cX7_fillAction 76 = .ok (.aload_n 0, 1) := by decide +kernel
theorem dX7_fillAction_77 : decode cX7_fillAction 77 = .ok (.getfield 39, 3) := by decide +kernel
theorem dX7_fillAction_80 : decode cX7_fillAction 80 = .ok (.iload 6, 2) := by decide +kernel
theorem dX7_fillAction_82 : decode cX7_fillAction 82 = .ok (.aaload, 1) := by decide +kernel
theorem dX7_fillAction_83 : decode cX7_fillAction 83 = .ok (.iload 7, 2) := by decide +kernel
theorem dX7_fillAction_85 : decode cX7_fillAction 85 = .ok (.aload 5, 2) := by decide +kernel
theorem dX7_fillAction_87 : decode cX7_fillAction 87 = .ok (.iload 8, 2) := by decide +kernel
theorem dX7_fillAction_89 : decode cX7_fillAction 89 = .ok (.invokevirtual 114, 3) := by decide +kernel
theorem dX7_fillAction_92 : decode cX7_fillAction 92 = .ok (.iastore, 1) := by decide +kernel
theorem dX7_fillAction_93 : decode cX7_fillAction 93 = .ok (.iinc 7 1, 3) := by decide +kernel
theorem dX7_fillAction_96 : decode cX7_fillAction 96 = .ok (.goto (-84), 3) := by decide +kernel
theorem dX7_fillAction_99 : decode cX7_fillAction 99 = .ok (.iinc 6 1, 3) := by decide +kernel
theorem dX7_fillAction_102 : decode cX7_fillAction 102 = .ok (.goto (-99), 3) := by decide +kernel
theorem dX7_fillAction_105 : decode cX7_fillAction 105 = .ok (.return_, 1) := by decide +kernel
theorem dX7_fillWork_0 : decode cX7_fillWork 0 = .ok (.iconst 0, 1) := by decide +kernel
theorem dX7_fillWork_1 : decode cX7_fillWork 1 = .ok (.istore 4, 2) := by decide +kernel
theorem dX7_fillWork_3 : decode cX7_fillWork 3 = .ok (.iload 4, 2) := by decide +kernel
theorem dX7_fillWork_5 : decode cX7_fillWork 5 = .ok (.iload_n 1, 1) := by decide +kernel
theorem dX7_fillWork_6 : decode cX7_fillWork 6 = .ok (.if_icmp .ge 70, 3) := by decide +kernel
theorem dX7_fillWork_9 : decode cX7_fillWork 9 = .ok (.iconst 0, 1) := by decide +kernel
theorem dX7_fillWork_10 : decode cX7_fillWork 10 = .ok (.istore 5, 2) := by decide +kernel
theorem dX7_fillWork_12 : decode cX7_fillWork 12 = .ok (.iload 5, 2) := by decide +kernel
theorem dX7_fillWork_14 : decode cX7_fillWork 14 = .ok (.iload_n 1, 1) := by decide +kernel
theorem dX7_fillWork_15 : decode cX7_fillWork 15 = .ok (.if_icmp .ge 29, 3) := by decide +kernel
theorem dX7_fillWork_18 : decode cX7_fillWork 18 = .ok (.aload_n 0, 1) := by decide +kernel
theorem dX7_fillWork_19 : decode cX7_fillWork 19 = .ok (.getfield 42, 3) := by decide +kernel
theorem dX7_fillWork_22 : decode cX7_fillWork 22 = .ok (.iload 5, 2) := by decide +kernel
theorem dX7_fillWork_24 : decode cX7_fillWork 24 = .ok (.aaload, 1) := by decide +kernel
theorem dX7_fillWork_25 : decode cX7_fillWork 25 = .ok (.iload 4, 2) := by decide +kernel
theorem dX7_fillWork_27 : decode cX7_fillWork 27 = .ok (.aload_n 0, 1) := by decide +kernel
theorem dX7_fillWork_28 : decode cX7_fillWork 28 = .ok (.getfield 39, 3) := by decide +kernel
theorem dX7_fillWork_31 : decode cX7_fillWork 31 = .ok (.iload 4, 2) := by decide +kernel
theorem dX7_fillWork_33 : decode cX7_fillWork 33 = .ok (.aaload, 1) := by decide +kernel
theorem dX7_fillWork_34 : decode cX7_fillWork 34 = .ok (.iload 5, 2) := by decide +kernel
theorem dX7_fillWork_36 : decode cX7_fillWork 36 = .ok (.iaload, 1) := by decide +kernel
theorem dX7_fillWork_37 : decode cX7_fillWork 37 = .ok (.iastore, 1) := by decide +kernel
theorem dX7_fillWork_38 : decode cX7_fillWork 38 = .ok (.iinc 5 1, 3) := by decide +kernel
theorem dX7_fillWork_41 : decode cX7_fillWork 41 = .ok (.goto (-29), 3) := by decide +kernel
theorem dX7_fillWork_44 : decode cX7_fillWork 44 = .ok (.aload_n 0, 1) := by decide +kernel
theorem dX7_fillWork_45 : decode cX7_fillWork 45 = .ok (.getfield 42, 3) := by decide +kernel
theorem dX7_fillWork_48 : decode cX7_fillWork 48 = .ok (.iload 4, 2) := by decide +kernel
theorem dX7_fillWork_50 : decode cX7_fillWork 50 = .ok (.aaload, 1) := by decide +kernel
theorem dX7_fillWork_51 : decode cX7_fillWork 51 = .ok (.iload 4, 2) := by decide +kernel
theorem dX7_fillWork_53 : decode cX7_fillWork 53 = .ok (.aload_n 3, 1) := by decide +kernel
theorem dX7_fillWork_54 : decode cX7_fillWork 54 = .ok (.aload_n 0, 1) := by decide +kernel
theorem dX7_fillWork_55 : decode cX7_fillWork 55 = .ok (.getfield 39, 3) := by decide +kernel
theorem dX7_fillWork_58 : decode cX7_fillWork 58 = .ok (.iload 4, 2) := by decide +kernel
theorem dX7_fillWork_60 : decode cX7_fillWork 60 = .ok (.aaload, 1) := by decide +kernel
theorem dX7_fillWork_61 : decode cX7_fillWork 61 = .ok (.iload 4, 2) := by decide +kernel
theorem dX7_fillWork_63 : decode cX7_fillWork 63 = .ok (.iaload, 1) := by decide +kernel
theorem dX7_fillWork_64 : decode cX7_fillWork 64 = .ok (.iload_n 2, 1) := by decide +kernel
theorem dX7_fillWork_65 : decode cX7_fillWork 65 = .ok (.isub, 1) := by decide +kernel
theorem dX7_fillWork_66 : decode cX7_fillWork 66 = .ok (.invokevirtual 114, 3) := by decide +kernel
theorem dX7_fillWork_69 : decode cX7_fillWork 69 = .ok (.iastore, 1) := by decide +kernel
theorem dX7_fillWork_70 : decode cX7_fillWork 70 = .ok (.iinc 4 1, 3) := by decide +kernel
theorem dX7_fillWork_73 : decode cX7_fillWork 73 = .ok (.goto (-70), 3) := by decide +kernel
theorem dX7_fillWork_76 : decode cX7_fillWork 76 = .ok (.return_, 1) := by decide +kernel
theorem dX7_addMixes_0 : decode cX7_addMixes 0 = .ok (.iconst 0, 1) := by decide +kernel
theorem dX7_addMixes_1 : decode cX7_addMixes 1 = .ok (.istore 5, 2) := by decide +kernel
theorem dX7_addMixes_3 : decode cX7_addMixes 3 = .ok (.iconst 0, 1) := by decide +kernel
theorem dX7_addMixes_4 : decode cX7_addMixes 4 = .ok (.istore 6, 2) := by decide +kernel
theorem dX7_addMixes_6 : decode cX7_addMixes 6 = .ok (.iload 6, 2) := by decide +kernel
theorem dX7_addMixes_8 : decode cX7_addMixes 8 = .ok (.iload_n 2, 1) := by decide +kernel
theorem dX7_addMixes_9 : decode cX7_addMixes 9 = .ok (.if_icmp .ge 130, 3) := by decide +kernel
theorem dX7_addMixes_12 : decode cX7_addMixes 12 = .ok (.iload 5, 2) := by decide +kernel
theorem dX7_addMixes_14 : decode cX7_addMixes 14 = .ok (.iload_n 3, 1) := by decide +kernel
theorem dX7_addMixes_15 : decode cX7_addMixes 15 = .ok (.if_icmp .ge 21, 3) := by decide +kernel
theorem dX7_addMixes_18 : decode cX7_addMixes 18 = .ok (.aload_n 0, 1) := by decide +kernel
theorem dX7_addMixes_19 : decode cX7_addMixes 19 = .ok (.getfield 45, 3) := by decide +kernel
theorem dX7_addMixes_22 : decode cX7_addMixes 22 = .ok (.iload 5, 2) := by decide +kernel
theorem dX7_addMixes_24 : decode cX7_addMixes 24 = .ok (.iaload, 1) := by decide +kernel
theorem dX7_addMixes_25 : decode cX7_addMixes 25 = .ok (.iload 6, 2) := by decide +kernel
theorem dX7_addMixes_27 : decode cX7_addMixes 27 = .ok (.if_icmp .ne 9, 3) := by decide +kernel
theorem dX7_addMixes_30 : decode cX7_addMixes 30 = .ok (.iinc 5 1, 3) := by decide +kernel
theorem dX7_addMixes_33 : decode cX7_addMixes 33 = .ok (.goto 100, 3) := by decide +kernel
theorem dX7_addMixes_36 : decode cX7_addMixes 36 = .ok (.aload_n 0, 1) := by decide +kernel
theorem dX7_addMixes_37 : decode cX7_addMixes 37 = .ok (.getfield 33, 3) := by decide +kernel
theorem dX7_addMixes_40 : decode cX7_addMixes 40 = .ok (.aload_n 0, 1) := by decide +kernel
theorem dX7_addMixes_41 : decode cX7_addMixes 41 = .ok (.getfield 36, 3) := by decide +kernel
theorem dX7_addMixes_44 : decode cX7_addMixes 44 = .ok (.if_icmp .ge 89, 3) := by decide +kernel
theorem dX7_addMixes_47 : decode cX7_addMixes 47 = .ok (.aload_n 0, 1) := by decide +kernel
theorem dX7_addMixes_48 : decode cX7_addMixes 48 = .ok (.getfield 48, 3) := by decide +kernel
theorem dX7_addMixes_51 : decode cX7_addMixes 51 = .ok (.iconst 0, 1) := by decide +kernel
theorem dX7_addMixes_52 : decode cX7_addMixes 52 = .ok (.invokestatic 73, 3) := by decide +kernel
theorem dX7_addMixes_55 : decode cX7_addMixes 55 = .ok (.aload_n 0, 1) := by decide +kernel
theorem dX7_addMixes_56 : decode cX7_addMixes 56 = .ok (.getfield 48, 3) := by decide +kernel
theorem dX7_addMixes_59 : decode cX7_addMixes 59 = .ok (.iload 6, 2) := by decide +kernel
theorem dX7_addMixes_61 : decode cX7_addMixes 61 = .ok (.iconst 1, 1) := by decide +kernel
theorem dX7_addMixes_62 : decode cX7_addMixes 62 = .ok (.iastore, 1) := by decide +kernel
theorem dX7_addMixes_63 : decode cX7_addMixes 63 = .ok (.iconst 0, 1) := by decide +kernel
theorem dX7_addMixes_64 : decode cX7_addMixes 64 = .ok (.istore 7, 2) := by decide +kernel
theorem dX7_addMixes_66 : decode cX7_addMixes 66 = .ok (.iload 7, 2) := by decide +kernel
theorem dX7_addMixes_68 : decode cX7_addMixes 68 = .ok (.iload_n 3, 1) := by decide +kernel
theorem dX7_addMixes_69 : decode cX7_addMixes 69 = .ok (.if_icmp .ge 37, 3) := by decide +kernel
theorem dX7_addMixes_72 : decode cX7_addMixes 72 = .ok (.aload_n 0, 1) := by decide +kernel
theorem dX7_addMixes_73 : decode cX7_addMixes 73 = .ok (.getfield 48, 3) := by decide +kernel
theorem dX7_addMixes_76 : decode cX7_addMixes 76 = .ok (.aload_n 0, 1) := by decide +kernel
theorem dX7_addMixes_77 : decode cX7_addMixes 77 = .ok (.getfield 45, 3) := by decide +kernel
theorem dX7_addMixes_80 : decode cX7_addMixes 80 = .ok (.iload 7, 2) := by decide +kernel
theorem dX7_addMixes_82 : decode cX7_addMixes 82 = .ok (.iaload, 1) := by decide +kernel
theorem dX7_addMixes_83 : decode cX7_addMixes 83 = .ok (.aload 4, 2) := by decide +kernel
theorem dX7_addMixes_85 : decode cX7_addMixes 85 = .ok (.aload_n 0, 1) := by decide +kernel
theorem dX7_addMixes_86 : decode cX7_addMixes 86 = .ok (.getfield 42, 3) := by decide +kernel
theorem dX7_addMixes_89 : decode cX7_addMixes 89 = .ok (.iload 7, 2) := by decide +kernel
theorem dX7_addMixes_91 : decode cX7_addMixes 91 = .ok (.aaload, 1) := by decide +kernel
theorem dX7_addMixes_92 : decode cX7_addMixes 92 = .ok (.iload 6, 2) := by decide +kernel
theorem dX7_addMixes_94 : decode cX7_addMixes 94 = .ok (.iaload, 1) := by decide +kernel
theorem dX7_addMixes_95 : decode cX7_addMixes 95 = .ok (.ineg, 1) := by decide +kernel
theorem dX7_addMixes_96 : decode cX7_addMixes 96 = .ok (.invokevirtual 114, 3) := by decide +kernel
theorem dX7_addMixes_99 : decode cX7_addMixes 99 = .ok (.iastore, 1) := by decide +kernel
theorem dX7_addMixes_100 : decode cX7_addMixes 100 = .ok (.iinc 7 1, 3) := by decide +kernel
theorem dX7_addMixes_103 : decode cX7_addMixes 103 = .ok (.goto (-37), 3) := by decide +kernel
theorem dX7_addMixes_106 : decode cX7_addMixes 106 = .ok (.aload_n 0, 1) := by decide +kernel
theorem dX7_addMixes_107 : decode cX7_addMixes 107 = .ok (.iload_n 1, 1) := by decide +kernel
theorem dX7_addMixes_108 : decode cX7_addMixes 108 = .ok (.iload_n 2, 1) := by decide +kernel
theorem dX7_addMixes_109 : decode cX7_addMixes 109 = .ok (.aload_n 0, 1) := by decide +kernel
theorem dX7_addMixes_110 : decode cX7_addMixes 110 = .ok (.getfield 16, 3) := by decide +kernel
theorem dX7_addMixes_113 : decode cX7_addMixes 113 = .ok (.aload_n 0, 1) := by decide +kernel
theorem dX7_addMixes_114 : decode cX7_addMixes 114 = .ok (.getfield 33, 3) := by decide +kernel
theorem dX7_addMixes_117 : decode cX7_addMixes 117 = .ok (.aaload, 1) := by decide +kernel
theorem dX7_addMixes_118 : decode cX7_addMixes 118 = .ok (.aload 4, 2) := by decide +kernel
theorem dX7_addMixes_120 : decode cX7_addMixes 120 = .ok (.invokevirtual 118, 3) := by decide +kernel
theorem dX7_addMixes_123 : decode cX7_addMixes 123 = .ok (.aload_n 0, 1) := by decide +kernel
theorem dX7_addMixes_124 : decode cX7_addMixes 124 = .ok (.dup, 1) := by decide +kernel
theorem dX7_addMixes_125 : decode cX7_addMixes 125 = .ok (.getfield 33, 3) := by decide +kernel
theorem dX7_addMixes_128 : decode cX7_addMixes 128 = .ok (.iconst 1, 1) := by decide +kernel
theorem dX7_addMixes_129 : decode cX7_addMixes 129 = .ok (.iadd, 1) := by decide +kernel
theorem dX7_addMixes_130 : decode cX7_addMixes 130 = .ok (.putfield 33, 3) := by decide +kernel
theorem dX7_addMixes_133 : decode cX7_addMixes 133 = .ok (.iinc 6 1, 3) := by decide +kernel
theorem dX7_addMixes_136 : decode cX7_addMixes 136 = .ok (.goto (-130), 3) := by decide +kernel
theorem dX7_addMixes_139 : decode cX7_addMixes 139 = .ok (.return_, 1) := by decide +kernel
theorem dX7_mixLines_0 : decode cX7_mixLines 0 = .ok (.iconst 0, 1) := by decide +kernel
theorem dX7_mixLines_1 : decode cX7_mixLines 1 = .ok (.istore 5, 2) := by decide +kernel
theorem dX7_mixLines_3 : decode cX7_mixLines 3 = .ok (.iload 5, 2) := by decide +kernel
theorem dX7_mixLines_5 : decode cX7_mixLines 5 = .ok (.aload_n 0, 1) := by decide +kernel
theorem dX7_mixLines_6 : decode cX7_mixLines 6 = .ok (.getfield 36, 3) := by decide +kernel
theorem dX7_mixLines_9 : decode cX7_mixLines 9 = .ok (.if_icmp .ge 76, 3) := by decide +kernel
theorem dX7_mixLines_12 : decode cX7_mixLines 12 = .ok (.iconst 0, 1) := by decide +kernel
theorem dX7_mixLines_13 : decode cX7_mixLines 13 = .ok (.istore 6, 2) := by decide +kernel
theorem dX7_mixLines_15 : decode cX7_mixLines 15 = .ok (.iconst 0, 1) := by decide +kernel
theorem dX7_mixLines_16 : decode cX7_mixLines 16 = .ok (.istore 7, 2) := by decide +kernel
theorem dX7_mixLines_18 : decode cX7_mixLines 18 = .ok (.iload 7, 2) := by decide +kernel
theorem dX7_mixLines_20 : decode cX7_mixLines 20 = .ok (.iload_n 2, 1) := by decide +kernel
theorem dX7_mixLines_21 : decode cX7_mixLines 21 = .ok (.if_icmp .ge 34, 3) := by decide +kernel
theorem dX7_mixLines_24 : decode cX7_mixLines 24 = .ok (.iload 6, 2) := by decide +kernel
theorem dX7_mixLines_26 : decode cX7_mixLines 26 = .ok (.aload_n 0, 1) := by decide +kernel
theorem dX7_mixLines_27 : decode cX7_mixLines 27 = .ok (.getfield 48, 3) := by decide +kernel
theorem dX7_mixLines_30 : decode cX7_mixLines 30 = .ok (.iload 7, 2) := by decide +kernel
theorem dX7_mixLines_32 : decode cX7_mixLines 32 = .ok (.iaload, 1) := by decide +kernel
theorem dX7_mixLines_33 : decode cX7_mixLines 33 = .ok (.aload_n 0, 1) := by decide +kernel
theorem dX7_mixLines_34 : decode cX7_mixLines 34 = .ok (.getfield 11, 3) := by decide +kernel
theorem dX7_mixLines_37 : decode cX7_mixLines 37 = .ok (.iload_n 1, 1) := by decide +kernel
theorem dX7_mixLines_38 : decode cX7_mixLines 38 = .ok (.iload 7, 2) := by decide +kernel
theorem dX7_mixLines_40 : decode cX7_mixLines 40 = .ok (.iadd, 1) := by decide +kernel
theorem dX7_mixLines_41 : decode cX7_mixLines 41 = .ok (.aaload, 1) := by decide +kernel
theorem dX7_mixLines_42 : decode cX7_mixLines 42 = .ok (.iload 5, 2) := by decide +kernel
theorem dX7_mixLines_44 : decode cX7_mixLines 44 = .ok (.iaload, 1) := by decide +kernel
theorem dX7_mixLines_45 : decode cX7_mixLines 45 = .ok (.imul, 1) := by decide +kernel
theorem dX7_mixLines_46 : decode cX7_mixLines 46 = .ok (.iadd, 1) := by decide +kernel
theorem dX7_mixLines_47 : decode cX7_mixLines 47 = .ok (.istore 6, 2) := by decide +kernel
theorem dX7_mixLines_49 : decode cX7_mixLines 49 = .ok (.iinc 7 1, 3) := by decide +kernel
theorem dX7_mixLines_52 : decode cX7_mixLines 52 = .ok (.goto (-34), 3) := by decide +kernel
theorem dX7_mixLines_55 : decode cX7_mixLines 55 = .ok (.aload_n 3, 1) := by decide +kernel
theorem dX7_mixLines_56 : decode cX7_mixLines 56 = .ok (.iload 5, 2) := by decide +kernel
theorem dX7_mixLines_58 : decode cX7_mixLines 58 = .ok (.aload 4, 2) := by decide +kernel
theorem dX7_mixLines_60 : decode cX7_mixLines 60 = .ok (.getfield 90, 3) := by decide +kernel
theorem dX7_mixLines_63 : decode cX7_mixLines 63 = .ok (.ifCond .le 14, 3) := by decide +kernel
theorem dX7_mixLines_66 : decode cX7_mixLines 66 = .ok (.iload 6, 2) := by decide +kernel
theorem dX7_mixLines_68 : decode cX7_mixLines 68 = .ok (.aload 4, 2) := by decide +kernel
theorem dX7_mixLines_70 : decode cX7_mixLines 70 = .ok (.getfield 90, 3) := by decide +kernel
theorem dX7_mixLines_73 : decode cX7_mixLines 73 = .ok (.irem, 1) := by decide +kernel
theorem dX7_mixLines_74 : decode cX7_mixLines 74 = .ok (.goto 4, 3) := by decide +kernel
theorem dX7_mixLines_77 : decode cX7_mixLines 77 = .ok (.iconst 0, 1) := by decide +kernel
theorem dX7_mixLines_78 : decode cX7_mixLines 78 = .ok (.iastore, 1) := by decide +kernel
theorem dX7_mixLines_79 : decode cX7_mixLines 79 = .ok (.iinc 5 1, 3) := by decide +kernel
theorem dX7_mixLines_82 : decode cX7_mixLines 82 = .ok (.goto (-79), 3) := by decide +kernel
theorem dX7_mixLines_85 : decode cX7_mixLines 85 = .ok (.return_, 1) := by decide +kernel
theorem dX7_reduce_0 : decode cX7_reduce 0 = .ok (.iconst 0, 1) := by decide +kernel
theorem dX7_reduce_1 : decode cX7_reduce 1 = .ok (.istore 6, 2) := by decide +kernel
theorem dX7_reduce_3 : decode cX7_reduce 3 = .ok (.iconst 0, 1) := by decide +kernel
theorem dX7_reduce_4 : decode cX7_reduce 4 = .ok (.istore 7, 2) := by decide +kernel
theorem dX7_reduce_6 : decode cX7_reduce 6 = .ok (.iload 7, 2) := by decide +kernel
theorem dX7_reduce_8 : decode cX7_reduce 8 = .ok (.iload 4, 2) := by decide +kernel
theorem dX7_reduce_10 : decode cX7_reduce 10 = .ok (.if_icmp .ge 146, 3) := by decide +kernel
theorem dX7_reduce_13 : decode cX7_reduce 13 = .ok (.iload 6, 2) := by decide +kernel
theorem dX7_reduce_15 : decode cX7_reduce 15 = .ok (.iload_n 3, 1) := by decide +kernel
theorem dX7_reduce_16 : decode cX7_reduce 16 = .ok (.if_icmp .ge 140, 3) := by decide +kernel
theorem dX7_reduce_19 : decode cX7_reduce 19 = .ok (.aload_n 1, 1) := by decide +kernel
theorem dX7_reduce_20 : decode cX7_reduce 20 = .ok (.iload_n 2, 1) := by decide +kernel
theorem dX7_reduce_21 : decode cX7_reduce 21 = .ok (.iload 6, 2) := by decide +kernel
theorem dX7_reduce_23 : decode cX7_reduce 23 = .ok (.iadd, 1) := by decide +kernel
theorem dX7_reduce_24 : decode cX7_reduce 24 = .ok (.iload_n 2, 1) := by decide +kernel
theorem dX7_reduce_25 : decode cX7_reduce 25 = .ok (.iload_n 3, 1) := by decide +kernel
theorem dX7_reduce_26 : decode cX7_reduce 26 = .ok (.iadd, 1) := by decide +kernel
theorem dX7_reduce_27 : decode cX7_reduce 27 = .ok (.iload 7, 2) := by decide +kernel
theorem dX7_reduce_29 : decode cX7_reduce 29 = .ok (.invokestatic 122, 3) := by decide +kernel
theorem dX7_reduce_32 : decode cX7_reduce 32 = .ok (.istore 8, 2) := by decide +kernel
theorem dX7_reduce_34 : decode cX7_reduce 34 = .ok (.iload 8, 2) := by decide +kernel
theorem dX7_reduce_36 : decode cX7_reduce 36 = .ok (.iconst (-1), 1) := by decide +kernel
theorem dX7_reduce_37 : decode cX7_reduce 37 = .ok (.if_icmp .eq 113, 3) := by decide +kernel
theorem dX7_reduce_40 : decode cX7_reduce 40 = .ok (.aload_n 1, 1) := by decide +kernel
theorem dX7_reduce_41 : decode cX7_reduce 41 = .ok (.iload 8, 2) := by decide +kernel
theorem dX7_reduce_43 : decode cX7_reduce 43 = .ok (.aaload, 1) := by decide +kernel
theorem dX7_reduce_44 : decode cX7_reduce 44 = .ok (.astore 9, 2) := by decide +kernel
theorem dX7_reduce_46 : decode cX7_reduce 46 = .ok (.aload_n 1, 1) := by decide +kernel
theorem dX7_reduce_47 : decode cX7_reduce 47 = .ok (.iload 8, 2) := by decide +kernel
theorem dX7_reduce_49 : decode cX7_reduce 49 = .ok (.aload_n 1, 1) := by decide +kernel
theorem dX7_reduce_50 : decode cX7_reduce 50 = .ok (.iload_n 2, 1) := by decide +kernel
theorem dX7_reduce_51 : decode cX7_reduce 51 = .ok (.iload 6, 2) := by decide +kernel
theorem dX7_reduce_53 : decode cX7_reduce 53 = .ok (.iadd, 1) := by decide +kernel
theorem dX7_reduce_54 : decode cX7_reduce 54 = .ok (.aaload, 1) := by decide +kernel
theorem dX7_reduce_55 : decode cX7_reduce 55 = .ok (.aastore, 1) := by decide +kernel
theorem dX7_reduce_56 : decode cX7_reduce 56 = .ok (.aload_n 1, 1) := by decide +kernel
theorem dX7_reduce_57 : decode cX7_reduce 57 = .ok (.iload_n 2, 1) := by decide +kernel
theorem dX7_reduce_58 : decode cX7_reduce 58 = .ok (.iload 6, 2) := by decide +kernel
theorem dX7_reduce_60 : decode cX7_reduce 60 = .ok (.iadd, 1) := by decide +kernel
theorem dX7_reduce_61 : decode cX7_reduce 61 = .ok (.aload 9, 2) := by decide +kernel
theorem dX7_reduce_63 : decode cX7_reduce 63 = .ok (.aastore, 1) := by decide +kernel
theorem dX7_reduce_64 : decode cX7_reduce 64 = .ok (.aload 9, 2) := by decide +kernel
theorem dX7_reduce_66 : decode cX7_reduce 66 = .ok (.iload 7, 2) := by decide +kernel
theorem dX7_reduce_68 : decode cX7_reduce 68 = .ok (.iload 4, 2) := by decide +kernel
theorem dX7_reduce_70 : decode cX7_reduce 70 = .ok (.aload 5, 2) := by decide +kernel
theorem dX7_reduce_72 : decode cX7_reduce 72 = .ok (.getfield 126, 3) := by decide +kernel
theorem dX7_reduce_75 : decode cX7_reduce 75 = .ok (.aload 5, 2) := by decide +kernel
theorem dX7_reduce_77 : decode cX7_reduce 77 = .ok (.aload 9, 2) := by decide +kernel
theorem dX7_reduce_79 : decode cX7_reduce 79 = .ok (.iload 7, 2) := by decide +kernel
theorem dX7_reduce_81 : decode cX7_reduce 81 = .ok (.iaload, 1) := by decide +kernel
theorem dX7_reduce_82 : decode cX7_reduce 82 = .ok (.invokevirtual 114, 3) := by decide +kernel
theorem dX7_reduce_85 : decode cX7_reduce 85 = .ok (.iaload, 1) := by decide +kernel
theorem dX7_reduce_86 : decode cX7_reduce 86 = .ok (.aload 5, 2) := by decide +kernel
theorem dX7_reduce_88 : decode cX7_reduce 88 = .ok (.getfield 90, 3) := by decide +kernel
theorem dX7_reduce_91 : decode cX7_reduce 91 = .ok (.invokestatic 129, 3) := by decide +kernel
theorem dX7_reduce_94 : decode cX7_reduce 94 = .ok (.iload_n 2, 1) := by decide +kernel
theorem dX7_reduce_95 : decode cX7_reduce 95 = .ok (.istore 10, 2) := by decide +kernel
theorem dX7_reduce_97 : decode cX7_reduce 97 = .ok (.iload 10, 2) := by decide +kernel
theorem dX7_reduce_99 : decode cX7_reduce 99 = .ok (.iload_n 2, 1) := by decide +kernel
theorem dX7_reduce_100 : decode cX7_reduce 100 = .ok (.iload_n 3, 1) := by decide +kernel
theorem dX7_reduce_101 : decode cX7_reduce 101 = .ok (.iadd, 1) := by decide +kernel
theorem dX7_reduce_102 : decode cX7_reduce 102 = .ok (.if_icmp .ge 36, 3) := by decide +kernel
theorem dX7_reduce_105 : decode cX7_reduce 105 = .ok (.iload 10, 2) := by decide +kernel
theorem dX7_reduce_107 : decode cX7_reduce 107 = .ok (.iload_n 2, 1) := by decide +kernel
theorem dX7_reduce_108 : decode cX7_reduce 108 = .ok (.iload 6, 2) := by decide +kernel
theorem dX7_reduce_110 : decode cX7_reduce 110 = .ok (.iadd, 1) := by decide +kernel
theorem dX7_reduce_111 : decode cX7_reduce 111 = .ok (.if_icmp .eq 21, 3) := by decide +kernel
theorem dX7_reduce_114 : decode cX7_reduce 114 = .ok (.aload_n 1, 1) := by decide +kernel
theorem dX7_reduce_115 : decode cX7_reduce 115 = .ok (.iload 10, 2) := by decide +kernel
theorem dX7_reduce_117 : decode cX7_reduce 117 = .ok (.aaload, 1) := by decide +kernel
theorem dX7_reduce_118 : decode cX7_reduce 118 = .ok (.aload 9, 2) := by decide +kernel
theorem dX7_reduce_120 : decode cX7_reduce 120 = .ok (.iload 7, 2) := by decide +kernel
theorem dX7_reduce_122 : decode cX7_reduce 122 = .ok (.iload 4, 2) := by decide +kernel
theorem dX7_reduce_124 : decode cX7_reduce 124 = .ok (.aload 5, 2) := by decide +kernel
theorem dX7_reduce_126 : decode cX7_reduce 126 = .ok (.getfield 90, 3) := by decide +kernel
theorem dX7_reduce_129 : decode cX7_reduce 129 = .ok (.invokestatic 133, 3) := by decide +kernel
theorem dX7_reduce_132 : decode cX7_reduce 132 = .ok (.iinc 10 1, 3) := by decide +kernel
theorem dX7_reduce_135 : decode cX7_reduce 135 = .ok (.goto (-38), 3) := by decide +kernel
theorem dX7_reduce_138 : decode cX7_reduce 138 = .ok (.aload_n 0, 1) := by decide +kernel
theorem dX7_reduce_139 : decode cX7_reduce 139 = .ok (.getfield 45, 3) := by decide +kernel
theorem dX7_reduce_142 : decode cX7_reduce 142 = .ok (.iload 6, 2) := by decide +kernel
theorem dX7_reduce_144 : decode cX7_reduce 144 = .ok (.iload 7, 2) := by decide +kernel
theorem dX7_reduce_146 : decode cX7_reduce 146 = .ok (.iastore, 1) := by decide +kernel
theorem dX7_reduce_147 : decode cX7_reduce 147 = .ok (.iinc 6 1, 3) := by decide +kernel
theorem dX7_reduce_150 : decode cX7_reduce 150 = .ok (.iinc 7 1, 3) := by decide +kernel
theorem dX7_reduce_153 : decode cX7_reduce 153 = .ok (.goto (-147), 3) := by decide +kernel
theorem dX7_reduce_156 : decode cX7_reduce 156 = .ok (.iload 6, 2) := by decide +kernel
theorem dX7_reduce_158 : decode cX7_reduce 158 = .ok (.ireturn, 1) := by decide +kernel
theorem dX7_lineWith_0 : decode cX7_lineWith 0 = .ok (.iload_n 1, 1) := by decide +kernel
theorem dX7_lineWith_1 : decode cX7_lineWith 1 = .ok (.istore 4, 2) := by decide +kernel
theorem dX7_lineWith_3 : decode cX7_lineWith 3 = .ok (.iload 4, 2) := by decide +kernel
theorem dX7_lineWith_5 : decode cX7_lineWith 5 = .ok (.iload_n 2, 1) := by decide +kernel
theorem dX7_lineWith_6 : decode cX7_lineWith 6 = .ok (.if_icmp .ge 21, 3) := by decide +kernel
theorem dX7_lineWith_9 : decode cX7_lineWith 9 = .ok (.aload_n 0, 1) := by decide +kernel
theorem dX7_lineWith_10 : decode cX7_lineWith 10 = .ok (.iload 4, 2) := by decide +kernel
theorem dX7_lineWith_12 : decode cX7_lineWith 12 = .ok (.aaload, 1) := by decide +kernel
theorem dX7_lineWith_13 : decode cX7_lineWith 13 = .ok (.iload_n 3, 1) := by decide +kernel
theorem dX7_lineWith_14 : decode cX7_lineWith 14 = .ok (.iaload, 1) := by decide +kernel
theorem dX7_lineWith_15 : decode cX7_lineWith 15 = .ok (.ifCond .eq 6, 3) := by decide +kernel
theorem dX7_lineWith_18 : decode cX7_lineWith 18 = .ok (.iload 4, 2) := by decide +kernel
theorem dX7_lineWith_20 : decode cX7_lineWith 20 = .ok (.ireturn, 1) := by decide +kernel
theorem dX7_lineWith_21 : decode cX7_lineWith 21 = .ok (.iinc 4 1, 3) := by decide +kernel
theorem dX7_lineWith_24 : decode cX7_lineWith 24 = .ok (.goto (-21), 3) := by decide +kernel
theorem dX7_lineWith_27 : decode cX7_lineWith 27 = .ok (.iconst (-1), 1) := by decide +kernel
theorem dX7_lineWith_28 : decode cX7_lineWith 28 = .ok (.ireturn, 1) := by decide +kernel
theorem dX7_scale_0 : decode cX7_scale 0 = .ok (.iload_n 1, 1) := by decide +kernel
theorem dX7_scale_1 : decode cX7_scale 1 = .ok (.istore 5, 2) := by decide +kernel
theorem dX7_scale_3 : decode cX7_scale 3 = .ok (.iload 5, 2) := by decide +kernel
theorem dX7_scale_5 : decode cX7_scale 5 = .ok (.iload_n 2, 1) := by decide +kernel
theorem dX7_scale_6 : decode cX7_scale 6 = .ok (.if_icmp .ge 32, 3) := by decide +kernel
theorem dX7_scale_9 : decode cX7_scale 9 = .ok (.iload_n 3, 1) := by decide +kernel
theorem dX7_scale_10 : decode cX7_scale 10 = .ok (.iconst 1, 1) := by decide +kernel
theorem dX7_scale_11 : decode cX7_scale 11 = .ok (.if_icmp .eq 27, 3) := by decide +kernel
theorem dX7_scale_14 : decode cX7_scale 14 = .ok (.iload 4, 2) := by decide +kernel
theorem dX7_scale_16 : decode cX7_scale 16 = .ok (.ifCond .le 22, 3) := by decide +kernel
theorem dX7_scale_19 : decode cX7_scale 19 = .ok (.aload_n 0, 1) := by decide +kernel
theorem dX7_scale_20 : decode cX7_scale 20 = .ok (.iload 5, 2) := by decide +kernel
theorem dX7_scale_22 : decode cX7_scale 22 = .ok (.aload_n 0, 1) := by decide +kernel
theorem dX7_scale_23 : decode cX7_scale 23 = .ok (.iload 5, 2) := by decide +kernel
theorem dX7_scale_25 : decode cX7_scale 25 = .ok (.iaload, 1) := by decide +kernel
theorem dX7_scale_26 : decode cX7_scale 26 = .ok (.iload_n 3, 1) := by decide +kernel
theorem dX7_scale_27 : decode cX7_scale 27 = .ok (.imul, 1) := by decide +kernel
theorem dX7_scale_28 : decode cX7_scale 28 = .ok (.iload 4, 2) := by decide +kernel
theorem dX7_scale_30 : decode cX7_scale 30 = .ok (.irem, 1) := by decide +kernel
theorem dX7_scale_31 : decode cX7_scale 31 = .ok (.iastore, 1) := by decide +kernel
theorem dX7_scale_32 : decode cX7_scale 32 = .ok (.iinc 5 1, 3) := by decide +kernel
theorem dX7_scale_35 : decode cX7_scale 35 = .ok (.goto (-32), 3) := by decide +kernel
theorem dX7_scale_38 : decode cX7_scale 38 = .ok (.return_, 1) := by decide +kernel
theorem dX7_clearColumn_0 : decode cX7_clearColumn 0 = .ok (.iload 4, 2) := by decide +kernel
theorem dX7_clearColumn_2 : decode cX7_clearColumn 2 = .ok (.aload_n 0, 1) := by decide +kernel
theorem dX7_clearColumn_3 : decode cX7_clearColumn 3 = .ok (.iload_n 2, 1) := by decide +kernel
theorem dX7_clearColumn_4 : decode cX7_clearColumn 4 = .ok (.iaload, 1) := by decide +kernel
theorem dX7_clearColumn_5 : decode cX7_clearColumn 5 = .ok (.isub, 1) := by decide +kernel
theorem dX7_clearColumn_6 : decode cX7_clearColumn 6 = .ok (.istore 5, 2) := by decide +kernel
theorem dX7_clearColumn_8 : decode cX7_clearColumn 8 = .ok (.iload_n 2, 1) := by decide +kernel
theorem dX7_clearColumn_9 : decode cX7_clearColumn 9 = .ok (.istore 6, 2) := by decide +kernel
theorem dX7_clearColumn_11 : decode cX7_clearColumn 11 = .ok (.iload 6, 2) := by decide +kernel
theorem dX7_clearColumn_13 : decode cX7_clearColumn 13 = .ok (.iload_n 3, 1) := by decide +kernel
theorem dX7_clearColumn_14 : decode cX7_clearColumn 14 = .ok (.if_icmp .ge 40, 3) := by decide +kernel
theorem dX7_clearColumn_17 : decode cX7_clearColumn 17 = .ok (.iload 5, 2) := by decide +kernel
theorem dX7_clearColumn_19 : decode cX7_clearColumn 19 = .ok (.iload 4, 2) := by decide +kernel
theorem dX7_clearColumn_21 : decode cX7_clearColumn 21 = .ok (.if_icmp .eq 33, 3) := by decide +kernel
theorem dX7_clearColumn_24 : decode cX7_clearColumn 24 = .ok (.iload 4, 2) := by decide +kernel
theorem dX7_clearColumn_26 : decode cX7_clearColumn 26 = .ok (.ifCond .le 28, 3) := by decide +kernel
theorem dX7_clearColumn_29 : decode cX7_clearColumn 29 = .ok (.aload_n 0, 1) := by decide +kernel
theorem dX7_clearColumn_30 : decode cX7_clearColumn 30 = .ok (.iload 6, 2) := by decide +kernel
theorem dX7_clearColumn_32 : decode cX7_clearColumn 32 = .ok (.aload_n 0, 1) := by decide +kernel
theorem dX7_clearColumn_33 : decode cX7_clearColumn 33 = .ok (.iload 6, 2) := by decide +kernel
theorem dX7_clearColumn_35 : decode cX7_clearColumn 35 = .ok (.iaload, 1) := by decide +kernel
theorem dX7_clearColumn_36 : decode cX7_clearColumn 36 = .ok (.aload_n 1, 1) := by decide +kernel
theorem dX7_clearColumn_37 : decode cX7_clearColumn 37 = .ok (.iload 6, 2) := by decide +kernel
theorem dX7_clearColumn_39 : decode cX7_clearColumn 39 = .ok (.iaload, 1) := by decide +kernel
theorem dX7_clearColumn_40 : decode cX7_clearColumn 40 = .ok (.iload 5, 2) := by decide +kernel
theorem dX7_clearColumn_42 : decode cX7_clearColumn 42 = .ok (.imul, 1) := by decide +kernel
theorem dX7_clearColumn_43 : decode cX7_clearColumn 43 = .ok (.iadd, 1) := by decide +kernel
theorem dX7_clearColumn_44 : decode cX7_clearColumn 44 = .ok (.iload 4, 2) := by decide +kernel
theorem dX7_clearColumn_46 : decode cX7_clearColumn 46 = .ok (.irem, 1) := by decide +kernel
theorem dX7_clearColumn_47 : decode cX7_clearColumn 47 = .ok (.iastore, 1) := by decide +kernel
theorem dX7_clearColumn_48 : decode cX7_clearColumn 48 = .ok (.iinc 6 1, 3) := by decide +kernel
theorem dX7_clearColumn_51 : decode cX7_clearColumn 51 = .ok (.goto (-40), 3) := by decide +kernel
theorem dX7_clearColumn_54 : decode cX7_clearColumn 54 = .ok (.return_, 1) := by decide +kernel
