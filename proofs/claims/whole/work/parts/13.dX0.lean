theorem dX0_init_0 : decode cX0_init 0 = .ok (.aload_n 0, 1) := by decide +kernel
theorem dX0_init_1 : decode cX0_init 1 = .ok (.invokespecial 3, 3) := by decide +kernel
theorem dX0_init_4 : decode cX0_init 4 = .ok (.aload_n 0, 1) := by decide +kernel
theorem dX0_init_5 : decode cX0_init 5 = .ok (.iconst 0, 1) := by decide +kernel
theorem dX0_init_6 : decode cX0_init 6 = .ok (.putfield 9, 3) := by decide +kernel
theorem dX0_init_9 : decode cX0_init 9 = .ok (.aload_n 0, 1) := by decide +kernel
theorem dX0_init_10 : decode cX0_init 10 = .ok (.bipush 120, 2) := by decide +kernel
theorem dX0_init_12 : decode cX0_init 12 = .ok (.newarray .int, 2) := by decide +kernel
theorem dX0_init_14 : decode cX0_init 14 = .ok (.putfield 15, 3) := by decide +kernel
theorem dX0_init_17 : decode cX0_init 17 = .ok (.aload_n 0, 1) := by decide +kernel
theorem dX0_init_18 : decode cX0_init 18 = .ok (.bipush 120, 2) := by decide +kernel
theorem dX0_init_20 : decode cX0_init 20 = .ok (.newarray .int, 2) := by decide +kernel
theorem dX0_init_22 : decode cX0_init 22 = .ok (.putfield 19, 3) := by decide +kernel
theorem dX0_init_25 : decode cX0_init 25 = .ok (.aload_n 0, 1) := by decide +kernel
theorem dX0_init_26 : decode cX0_init 26 = .ok (.iconst 1, 1) := by decide +kernel
theorem dX0_init_27 : decode cX0_init 27 = .ok (.putfield 22, 3) := by decide +kernel
theorem dX0_init_30 : decode cX0_init 30 = .ok (.aload_n 0, 1) := by decide +kernel
theorem dX0_init_31 : decode cX0_init 31 = .ok (.sipush 600, 3) := by decide +kernel
theorem dX0_init_34 : decode cX0_init 34 = .ok (.newarray .int, 2) := by decide +kernel
theorem dX0_init_36 : decode cX0_init 36 = .ok (.putfield 25, 3) := by decide +kernel
theorem dX0_init_39 : decode cX0_init 39 = .ok (.aload_n 0, 1) := by decide +kernel
theorem dX0_init_40 : decode cX0_init 40 = .ok (.bipush 15, 2) := by decide +kernel
theorem dX0_init_42 : decode cX0_init 42 = .ok (.newarray .int, 2) := by decide +kernel
theorem dX0_init_44 : decode cX0_init 44 = .ok (.putfield 28, 3) := by decide +kernel
theorem dX0_init_47 : decode cX0_init 47 = .ok (.aload_n 0, 1) := by decide +kernel
theorem dX0_init_48 : decode cX0_init 48 = .ok (.sipush 625, 3) := by decide +kernel
theorem dX0_init_51 : decode cX0_init 51 = .ok (.newarray .int, 2) := by decide +kernel
theorem dX0_init_53 : decode cX0_init 53 = .ok (.putfield 31, 3) := by decide +kernel
theorem dX0_init_56 : decode cX0_init 56 = .ok (.aload_n 0, 1) := by decide +kernel
theorem dX0_init_57 : decode cX0_init 57 = .ok (.sipush 625, 3) := by decide +kernel
theorem dX0_init_60 : decode cX0_init 60 = .ok (.newarray .int, 2) := by decide +kernel
theorem dX0_init_62 : decode cX0_init 62 = .ok (.putfield 34, 3) := by decide +kernel
theorem dX0_init_65 : decode cX0_init 65 = .ok (.aload_n 0, 1) := by decide +kernel
theorem dX0_init_66 : decode cX0_init 66 = .ok (.iconst 5, 1) := by decide +kernel
theorem dX0_init_67 : decode cX0_init 67 = .ok (.newarray .int, 2) := by decide +kernel
theorem dX0_init_69 : decode cX0_init 69 = .ok (.putfield 37, 3) := by decide +kernel
theorem dX0_init_72 : decode cX0_init 72 = .ok (.return_, 1) := by decide +kernel
theorem dX0_build_0 : decode cX0_build 0 = .ok (.aload_n 0, 1) := by decide +kernel
theorem dX0_build_1 : decode cX0_build 1 = .ok (.aload_n 1, 1) := by decide +kernel
theorem dX0_build_2 : decode cX0_build 2 = .ok (.getfield 40, 3) := by decide +kernel
theorem dX0_build_5 : decode cX0_build 5 = .ok (.putfield 22, 3) := by decide +kernel
theorem dX0_build_8 : decode cX0_build 8 = .ok (.iconst 0, 1) := by decide +kernel
theorem dX0_build_9 : decode cX0_build 9 = .ok (.istore_n 2, 1) := by decide +kernel
theorem dX0_build_10 : decode cX0_build 10 = .ok (.iload_n 2, 1) := by decide +kernel
theorem dX0_build_11 : decode cX0_build 11 = .ok (.aload_n 1, 1) := by decide +kernel
theorem dX0_build_12 : decode cX0_build 12 = .ok (.getfield 43, 3) := by decide +kernel
theorem dX0_build_15 : decode cX0_build 15 = .ok (.if_icmp .ge 26, 3) := by decide +kernel
theorem dX0_build_18 : decode cX0_build 18 = .ok (.aload_n 0, 1) := by decide +kernel
theorem dX0_build_19 : decode cX0_build 19 = .ok (.aload_n 1, 1) := by decide +kernel
theorem dX0_build_20 : decode cX0_build 20 = .ok (.getfield 46, 3) := by decide +kernel
theorem dX0_build_23 : decode cX0_build 23 = .ok (.iload_n 2, 1) := by decide +kernel
theorem dX0_build_24 : decode cX0_build 24 = .ok (.iaload, 1) := by decide +kernel
theorem dX0_build_25 : decode cX0_build 25 = .ok (.aload_n 0, 1) := by decide +kernel
theorem dX0_build_26 : decode cX0_build 26 = .ok (.getfield 28, 3) := by decide +kernel
theorem dX0_build_29 : decode cX0_build 29 = .ok (.iload_n 2, 1) := by decide +kernel
theorem dX0_build_30 : decode cX0_build 30 = .ok (.iconst 5, 1) := by decide +kernel
theorem dX0_build_31 : decode cX0_build 31 = .ok (.imul, 1) := by decide +kernel
theorem dX0_build_32 : decode cX0_build 32 = .ok (.invokevirtual 47, 3) := by decide +kernel
theorem dX0_build_35 : decode cX0_build 35 = .ok (.iinc 2 1, 3) := by decide +kernel
theorem dX0_build_38 : decode cX0_build 38 = .ok (.goto (-28), 3) := by decide +kernel
theorem dX0_build_41 : decode cX0_build 41 = .ok (.aload_n 0, 1) := by decide +kernel
theorem dX0_build_42 : decode cX0_build 42 = .ok (.aload_n 1, 1) := by decide +kernel
theorem dX0_build_43 : decode cX0_build 43 = .ok (.getfield 43, 3) := by decide +kernel
theorem dX0_build_46 : decode cX0_build 46 = .ok (.invokevirtual 51, 3) := by decide +kernel
theorem dX0_build_49 : decode cX0_build 49 = .ok (.aload_n 0, 1) := by decide +kernel
theorem dX0_build_50 : decode cX0_build 50 = .ok (.invokevirtual 55, 3) := by decide +kernel
theorem dX0_build_53 : decode cX0_build 53 = .ok (.aload_n 0, 1) := by decide +kernel
theorem dX0_build_54 : decode cX0_build 54 = .ok (.invokevirtual 58, 3) := by decide +kernel
theorem dX0_build_57 : decode cX0_build 57 = .ok (.return_, 1) := by decide +kernel
theorem dX0_multiplied_0 : decode cX0_multiplied 0 = .ok (.iconst 0, 1) := by decide +kernel
theorem dX0_multiplied_1 : decode cX0_multiplied 1 = .ok (.istore_n 3, 1) := by decide +kernel
theorem dX0_multiplied_2 : decode cX0_multiplied 2 = .ok (.iload_n 3, 1) := by decide +kernel
theorem dX0_multiplied_3 : decode cX0_multiplied 3 = .ok (.aload_n 0, 1) := by decide +kernel
theorem dX0_multiplied_4 : decode cX0_multiplied 4 = .ok (.getfield 22, 3) := by decide +kernel
theorem dX0_multiplied_7 : decode cX0_multiplied 7 = .ok (.if_icmp .ge 34, 3) := by decide +kernel
theorem dX0_multiplied_10 : decode cX0_multiplied 10 = .ok (.aload_n 0, 1) := by decide +kernel
theorem dX0_multiplied_11 : decode cX0_multiplied 11 = .ok (.getfield 37, 3) := by decide +kernel
theorem dX0_multiplied_14 : decode cX0_multiplied 14 = .ok (.iload_n 3, 1) := by decide +kernel
theorem dX0_multiplied_15 : decode cX0_multiplied 15 = .ok (.aload_n 0, 1) := by decide +kernel
theorem dX0_multiplied_16 : decode cX0_multiplied 16 = .ok (.getfield 25, 3) := by decide +kernel
theorem dX0_multiplied_19 : decode cX0_multiplied 19 = .ok (.iload_n 2, 1) := by decide +kernel
theorem dX0_multiplied_20 : decode cX0_multiplied 20 = .ok (.iconst 5, 1) := by decide +kernel
theorem dX0_multiplied_21 : decode cX0_multiplied 21 = .ok (.imul, 1) := by decide +kernel
theorem dX0_multiplied_22 : decode cX0_multiplied 22 = .ok (.aload_n 0, 1) := by decide +kernel
theorem dX0_multiplied_23 : decode cX0_multiplied 23 = .ok (.getfield 25, 3) := by decide +kernel
theorem dX0_multiplied_26 : decode cX0_multiplied 26 = .ok (.iload_n 1, 1) := by decide +kernel
theorem dX0_multiplied_27 : decode cX0_multiplied 27 = .ok (.iconst 5, 1) := by decide +kernel
theorem dX0_multiplied_28 : decode cX0_multiplied 28 = .ok (.imul, 1) := by decide +kernel
theorem dX0_multiplied_29 : decode cX0_multiplied 29 = .ok (.iload_n 3, 1) := by decide +kernel
theorem dX0_multiplied_30 : decode cX0_multiplied 30 = .ok (.iadd, 1) := by decide +kernel
theorem dX0_multiplied_31 : decode cX0_multiplied 31 = .ok (.iaload, 1) := by decide +kernel
theorem dX0_multiplied_32 : decode cX0_multiplied 32 = .ok (.iadd, 1) := by decide +kernel
theorem dX0_multiplied_33 : decode cX0_multiplied 33 = .ok (.iaload, 1) := by decide +kernel
theorem dX0_multiplied_34 : decode cX0_multiplied 34 = .ok (.iastore, 1) := by decide +kernel
theorem dX0_multiplied_35 : decode cX0_multiplied 35 = .ok (.iinc 3 1, 3) := by decide +kernel
theorem dX0_multiplied_38 : decode cX0_multiplied 38 = .ok (.goto (-36), 3) := by decide +kernel
theorem dX0_multiplied_41 : decode cX0_multiplied 41 = .ok (.aload_n 0, 1) := by decide +kernel
theorem dX0_multiplied_42 : decode cX0_multiplied 42 = .ok (.invokevirtual 61, 3) := by decide +kernel
theorem dX0_multiplied_45 : decode cX0_multiplied 45 = .ok (.ireturn, 1) := by decide +kernel
theorem dX0_movedBy_0 : decode cX0_movedBy 0 = .ok (.aload_n 0, 1) := by decide +kernel
theorem dX0_movedBy_1 : decode cX0_movedBy 1 = .ok (.getfield 19, 3) := by decide +kernel
theorem dX0_movedBy_4 : decode cX0_movedBy 4 = .ok (.iload_n 1, 1) := by decide +kernel
theorem dX0_movedBy_5 : decode cX0_movedBy 5 = .ok (.iaload, 1) := by decide +kernel
theorem dX0_movedBy_6 : decode cX0_movedBy 6 = .ok (.istore_n 3, 1) := by decide +kernel
theorem dX0_movedBy_7 : decode cX0_movedBy 7 = .ok (.iconst 0, 1) := by decide +kernel
theorem dX0_movedBy_8 : decode cX0_movedBy 8 = .ok (.istore 4, 2) := by decide +kernel
theorem dX0_movedBy_10 : decode cX0_movedBy 10 = .ok (.iload 4, 2) := by decide +kernel
theorem dX0_movedBy_12 : decode cX0_movedBy 12 = .ok (.aload_n 0, 1) := by decide +kernel
theorem dX0_movedBy_13 : decode cX0_movedBy 13 = .ok (.getfield 22, 3) := by decide +kernel
theorem dX0_movedBy_16 : decode cX0_movedBy 16 = .ok (.if_icmp .ge 49, 3) := by decide +kernel
theorem dX0_movedBy_19 : decode cX0_movedBy 19 = .ok (.aload_n 0, 1) := by decide +kernel
theorem dX0_movedBy_20 : decode cX0_movedBy 20 = .ok (.getfield 25, 3) := by decide +kernel
theorem dX0_movedBy_23 : decode cX0_movedBy 23 = .ok (.iload_n 2, 1) := by decide +kernel
theorem dX0_movedBy_24 : decode cX0_movedBy 24 = .ok (.iconst 5, 1) := by decide +kernel
theorem dX0_movedBy_25 : decode cX0_movedBy 25 = .ok (.imul, 1) := by decide +kernel
theorem dX0_movedBy_26 : decode cX0_movedBy 26 = .ok (.aload_n 0, 1) := by decide +kernel
theorem dX0_movedBy_27 : decode cX0_movedBy 27 = .ok (.getfield 25, 3) := by decide +kernel
theorem dX0_movedBy_30 : decode cX0_movedBy 30 = .ok (.iload_n 1, 1) := by decide +kernel
theorem dX0_movedBy_31 : decode cX0_movedBy 31 = .ok (.iconst 5, 1) := by decide +kernel
theorem dX0_movedBy_32 : decode cX0_movedBy 32 = .ok (.imul, 1) := by decide +kernel
theorem dX0_movedBy_33 : decode cX0_movedBy 33 = .ok (.iload 4, 2) := by decide +kernel
theorem dX0_movedBy_35 : decode cX0_movedBy 35 = .ok (.iadd, 1) := by decide +kernel
theorem dX0_movedBy_36 : decode cX0_movedBy 36 = .ok (.iaload, 1) := by decide +kernel
theorem dX0_movedBy_37 : decode cX0_movedBy 37 = .ok (.iadd, 1) := by decide +kernel
theorem dX0_movedBy_38 : decode cX0_movedBy 38 = .ok (.iaload, 1) := by decide +kernel
theorem dX0_movedBy_39 : decode cX0_movedBy 39 = .ok (.istore 5, 2) := by decide +kernel
theorem dX0_movedBy_41 : decode cX0_movedBy 41 = .ok (.aload_n 0, 1) := by decide +kernel
theorem dX0_movedBy_42 : decode cX0_movedBy 42 = .ok (.getfield 37, 3) := by decide +kernel
theorem dX0_movedBy_45 : decode cX0_movedBy 45 = .ok (.iload 4, 2) := by decide +kernel
theorem dX0_movedBy_47 : decode cX0_movedBy 47 = .ok (.aload_n 0, 1) := by decide +kernel
theorem dX0_movedBy_48 : decode cX0_movedBy 48 = .ok (.getfield 25, 3) := by decide +kernel
theorem dX0_movedBy_51 : decode cX0_movedBy 51 = .ok (.iload_n 3, 1) := by decide +kernel
theorem dX0_movedBy_52 : decode cX0_movedBy 52 = .ok (.iconst 5, 1) := by decide +kernel
theorem dX0_movedBy_53 : decode cX0_movedBy 53 = .ok (.imul, 1) := by decide +kernel
theorem dX0_movedBy_54 : decode cX0_movedBy 54 = .ok (.iload 5, 2) := by decide +kernel
theorem dX0_movedBy_56 : decode cX0_movedBy 56 = .ok (.iadd, 1) := by decide +kernel
theorem dX0_movedBy_57 : decode cX0_movedBy 57 = .ok (.iaload, 1) := by decide +kernel
theorem dX0_movedBy_58 : decode cX0_movedBy 58 = .ok (.iastore, 1) := by decide +kernel
theorem dX0_movedBy_59 : decode cX0_movedBy 59 = .ok (.iinc 4 1, 3) := by decide +kernel
theorem dX0_movedBy_62 : decode cX0_movedBy 62 = .ok (.goto (-52), 3) := by decide +kernel
theorem dX0_movedBy_65 : decode cX0_movedBy 65 = .ok (.aload_n 0, 1) := by decide +kernel
theorem dX0_movedBy_66 : decode cX0_movedBy 66 = .ok (.invokevirtual 61, 3) := by decide +kernel
theorem dX0_movedBy_69 : decode cX0_movedBy 69 = .ok (.ireturn, 1) := by decide +kernel
theorem dX0_pointsLeft_0 : decode cX0_pointsLeft 0 = .ok (.iconst 0, 1) := by decide +kernel
theorem dX0_pointsLeft_1 : decode cX0_pointsLeft 1 = .ok (.istore_n 2, 1) := by decide +kernel
theorem dX0_pointsLeft_2 : decode cX0_pointsLeft 2 = .ok (.iconst 0, 1) := by decide +kernel
theorem dX0_pointsLeft_3 : decode cX0_pointsLeft 3 = .ok (.istore_n 3, 1) := by decide +kernel
theorem dX0_pointsLeft_4 : decode cX0_pointsLeft 4 = .ok (.iload_n 3, 1) := by decide +kernel
theorem dX0_pointsLeft_5 : decode cX0_pointsLeft 5 = .ok (.aload_n 0, 1) := by decide +kernel
theorem dX0_pointsLeft_6 : decode cX0_pointsLeft 6 = .ok (.getfield 22, 3) := by decide +kernel
theorem dX0_pointsLeft_9 : decode cX0_pointsLeft 9 = .ok (.if_icmp .ge 26, 3) := by decide +kernel
theorem dX0_pointsLeft_12 : decode cX0_pointsLeft 12 = .ok (.aload_n 0, 1) := by decide +kernel
theorem dX0_pointsLeft_13 : decode cX0_pointsLeft 13 = .ok (.getfield 25, 3) := by decide +kernel
theorem dX0_pointsLeft_16 : decode cX0_pointsLeft 16 = .ok (.iload_n 1, 1) := by decide +kernel
theorem dX0_pointsLeft_17 : decode cX0_pointsLeft 17 = .ok (.iconst 5, 1) := by decide +kernel
theorem dX0_pointsLeft_18 : decode cX0_pointsLeft 18 = .ok (.imul, 1) := by decide +kernel
theorem dX0_pointsLeft_19 : decode cX0_pointsLeft 19 = .ok (.iload_n 3, 1) := by decide +kernel
theorem dX0_pointsLeft_20 : decode cX0_pointsLeft 20 = .ok (.iadd, 1) := by decide +kernel
theorem dX0_pointsLeft_21 : decode cX0_pointsLeft 21 = .ok (.iaload, 1) := by decide +kernel
theorem dX0_pointsLeft_22 : decode cX0_pointsLeft 22 = .ok (.iload_n 3, 1) := by decide +kernel
theorem dX0_pointsLeft_23 : decode cX0_pointsLeft 23 = .ok (.if_icmp .ne 6, 3) := by decide +kernel
theorem dX0_pointsLeft_26 : decode cX0_pointsLeft 26 = .ok (.iinc 2 1, 3) := by decide +kernel
theorem dX0_pointsLeft_29 : decode cX0_pointsLeft 29 = .ok (.iinc 3 1, 3) := by decide +kernel
theorem dX0_pointsLeft_32 : decode cX0_pointsLeft 32 = .ok (.goto (-28), 3) := by decide +kernel
theorem dX0_pointsLeft_35 : decode cX0_pointsLeft 35 = .ok (.iload_n 2, 1) := by decide +kernel
theorem dX0_pointsLeft_36 : decode cX0_pointsLeft 36 = .ok (.ireturn, 1) := by decide +kernel
theorem dX0_makeAll_0 : decode cX0_makeAll 0 = .ok (.aload_n 0, 1) := by decide +kernel
theorem dX0_makeAll_1 : decode cX0_makeAll 1 = .ok (.getfield 31, 3) := by decide +kernel
theorem dX0_makeAll_4 : decode cX0_makeAll 4 = .ok (.iconst (-1), 1) := by decide +kernel
theorem dX0_makeAll_5 : decode cX0_makeAll 5 = .ok (.invokestatic 65, 3) := by decide +kernel
theorem dX0_makeAll_8 : decode cX0_makeAll 8 = .ok (.aload_n 0, 1) := by decide +kernel
theorem dX0_makeAll_9 : decode cX0_makeAll 9 = .ok (.iconst 0, 1) := by decide +kernel
theorem dX0_makeAll_10 : decode cX0_makeAll 10 = .ok (.putfield 9, 3) := by decide +kernel
theorem dX0_makeAll_13 : decode cX0_makeAll 13 = .ok (.iconst 0, 1) := by decide +kernel
theorem dX0_makeAll_14 : decode cX0_makeAll 14 = .ok (.istore_n 2, 1) := by decide +kernel
theorem dX0_makeAll_15 : decode cX0_makeAll 15 = .ok (.iload_n 2, 1) := by decide +kernel
theorem dX0_makeAll_16 : decode cX0_makeAll 16 = .ok (.aload_n 0, 1) := by decide +kernel
theorem dX0_makeAll_17 : decode cX0_makeAll 17 = .ok (.getfield 22, 3) := by decide +kernel
theorem dX0_makeAll_20 : decode cX0_makeAll 20 = .ok (.if_icmp .ge 16, 3) := by decide +kernel
theorem dX0_makeAll_23 : decode cX0_makeAll 23 = .ok (.aload_n 0, 1) := by decide +kernel
theorem dX0_makeAll_24 : decode cX0_makeAll 24 = .ok (.getfield 37, 3) := by decide +kernel
theorem dX0_makeAll_27 : decode cX0_makeAll 27 = .ok (.iload_n 2, 1) := by decide +kernel
theorem dX0_makeAll_28 : decode cX0_makeAll 28 = .ok (.iload_n 2, 1) := by decide +kernel
theorem dX0_makeAll_29 : decode cX0_makeAll 29 = .ok (.iastore, 1) := by decide +kernel
theorem dX0_makeAll_30 : decode cX0_makeAll 30 = .ok (.iinc 2 1, 3) := by decide +kernel
theorem dX0_makeAll_33 : decode cX0_makeAll 33 = .ok (.goto (-18), 3) := by decide +kernel
theorem dX0_makeAll_36 : decode cX0_makeAll 36 = .ok (.aload_n 0, 1) := by decide +kernel
theorem dX0_makeAll_37 : decode cX0_makeAll 37 = .ok (.invokevirtual 71, 3) := by decide +kernel
theorem dX0_makeAll_40 : decode cX0_makeAll 40 = .ok (.iconst 0, 1) := by decide +kernel
theorem dX0_makeAll_41 : decode cX0_makeAll 41 = .ok (.istore_n 2, 1) := by decide +kernel
theorem dX0_makeAll_42 : decode cX0_makeAll 42 = .ok (.iload_n 2, 1) := by decide +kernel
theorem dX0_makeAll_43 : decode cX0_makeAll 43 = .ok (.aload_n 0, 1) := by decide +kernel
theorem dX0_makeAll_44 : decode cX0_makeAll 44 = .ok (.getfield 9, 3) := by decide +kernel
theorem dX0_makeAll_47 : decode cX0_makeAll 47 = .ok (.if_icmp .ge 77, 3) := by decide +kernel
theorem dX0_makeAll_50 : decode cX0_makeAll 50 = .ok (.iload_n 2, 1) := by decide +kernel
theorem dX0_makeAll_51 : decode cX0_makeAll 51 = .ok (.bipush 120, 2) := by decide +kernel
theorem dX0_makeAll_53 : decode cX0_makeAll 53 = .ok (.if_icmp .ge 71, 3) := by decide +kernel
theorem dX0_makeAll_56 : decode cX0_makeAll 56 = .ok (.iconst 0, 1) := by decide +kernel
theorem dX0_makeAll_57 : decode cX0_makeAll 57 = .ok (.istore_n 3, 1) := by decide +kernel
theorem dX0_makeAll_58 : decode cX0_makeAll 58 = .ok (.iload_n 3, 1) := by decide +kernel
theorem dX0_makeAll_59 : decode cX0_makeAll 59 = .ok (.iload_n 1, 1) := by decide +kernel
theorem dX0_makeAll_60 : decode cX0_makeAll 60 = .ok (.if_icmp .ge 58, 3) := by decide +kernel
theorem dX0_makeAll_63 : decode cX0_makeAll 63 = .ok (.iconst 0, 1) := by decide +kernel
theorem dX0_makeAll_64 : decode cX0_makeAll 64 = .ok (.istore 4, 2) := by decide +kernel
theorem dX0_makeAll_66 : decode cX0_makeAll 66 = .ok (.iload 4, 2) := by decide +kernel
theorem dX0_makeAll_68 : decode cX0_makeAll 68 = .ok (.aload_n 0, 1) := by decide +kernel
theorem dX0_makeAll_69 : decode cX0_makeAll 69 = .ok (.getfield 22, 3) := by decide +kernel
theorem dX0_makeAll_72 : decode cX0_makeAll 72 = .ok (.if_icmp .ge 36, 3) := by decide +kernel
theorem dX0_makeAll_75 : decode cX0_makeAll 75 = .ok (.aload_n 0, 1) := by decide +kernel
theorem dX0_makeAll_76 : decode cX0_makeAll 76 = .ok (.getfield 37, 3) := by decide +kernel
theorem dX0_makeAll_79 : decode cX0_makeAll 79 = .ok (.iload 4, 2) := by decide +kernel
theorem dX0_makeAll_81 : decode cX0_makeAll 81 = .ok (.aload_n 0, 1) := by decide +kernel
theorem dX0_makeAll_82 : decode cX0_makeAll 82 = .ok (.getfield 28, 3) := by decide +kernel
theorem dX0_makeAll_85 : decode cX0_makeAll 85 = .ok (.iload_n 3, 1) := by decide +kernel
theorem dX0_makeAll_86 : decode cX0_makeAll 86 = .ok (.iconst 5, 1) := by decide +kernel
theorem dX0_makeAll_87 : decode cX0_makeAll 87 = .ok (.imul, 1) := by decide +kernel
theorem dX0_makeAll_88 : decode cX0_makeAll 88 = .ok (.aload_n 0, 1) := by decide +kernel
theorem dX0_makeAll_89 : decode cX0_makeAll 89 = .ok (.getfield 25, 3) := by decide +kernel
theorem dX0_makeAll_92 : decode cX0_makeAll 92 = .ok (.iload_n 2, 1) := by decide +kernel
theorem dX0_makeAll_93 : decode cX0_makeAll 93 = .ok (.iconst 5, 1) := by decide +kernel
theorem dX0_makeAll_94 : decode cX0_makeAll 94 = .ok (.imul, 1) := by decide +kernel
theorem dX0_makeAll_95 : decode cX0_makeAll 95 = .ok (.iload 4, 2) := by decide +kernel
theorem dX0_makeAll_97 : decode cX0_makeAll 97 = .ok (.iadd, 1) := by decide +kernel
theorem dX0_makeAll_98 : decode cX0_makeAll 98 = .ok (.iaload, 1) := by decide +kernel
theorem dX0_makeAll_99 : decode cX0_makeAll 99 = .ok (.iadd, 1) := by decide +kernel
theorem dX0_makeAll_100 : decode cX0_makeAll 100 = .ok (.iaload, 1) := by decide +kernel
theorem dX0_makeAll_101 : decode cX0_makeAll 101 = .ok (.iastore, 1) := by decide +kernel
theorem dX0_makeAll_102 : decode cX0_makeAll 102 = .ok (.iinc 4 1, 3) := by decide +kernel
theorem dX0_makeAll_105 : decode cX0_makeAll 105 = .ok (.goto (-39), 3) := by decide +kernel
theorem dX0_makeAll_108 : decode cX0_makeAll 108 = .ok (.aload_n 0, 1) := by decide +kernel
theorem dX0_makeAll_109 : decode cX0_makeAll 109 = .ok (.invokevirtual 71, 3) := by decide +kernel
theorem dX0_makeAll_112 : decode cX0_makeAll 112 = .ok (.iinc 3 1, 3) := by decide +kernel
theorem dX0_makeAll_115 : decode cX0_makeAll 115 = .ok (.goto (-57), 3) := by decide +kernel
theorem dX0_makeAll_118 : decode cX0_makeAll 118 = .ok (.iinc 2 1, 3) := by decide +kernel
theorem dX0_makeAll_121 : decode cX0_makeAll 121 = .ok (.goto (-79), 3) := by decide +kernel
theorem dX0_makeAll_124 : decode cX0_makeAll 124 = .ok (.return_, 1) := by decide +kernel
theorem dX0_addMade_0 : decode cX0_addMade 0 = .ok (.aload_n 0, 1) := by decide +kernel
theorem dX0_addMade_1 : decode cX0_addMade 1 = .ok (.invokevirtual 74, 3) := by decide +kernel
theorem dX0_addMade_4 : decode cX0_addMade 4 = .ok (.istore_n 1, 1) := by decide +kernel
theorem dX0_addMade_5 : decode cX0_addMade 5 = .ok (.iload_n 1, 1) := by decide +kernel
theorem dX0_addMade_6 : decode cX0_addMade 6 = .ok (.sipush 625, 3) := by decide +kernel
theorem dX0_addMade_9 : decode cX0_addMade 9 = .ok (.invokestatic 77, 3) := by decide +kernel
theorem dX0_addMade_12 : decode cX0_addMade 12 = .ok (.ifCond .eq 22, 3) := by decide +kernel
theorem dX0_addMade_15 : decode cX0_addMade 15 = .ok (.aload_n 0, 1) := by decide +kernel
theorem dX0_addMade_16 : decode cX0_addMade 16 = .ok (.getfield 31, 3) := by decide +kernel
theorem dX0_addMade_19 : decode cX0_addMade 19 = .ok (.iload_n 1, 1) := by decide +kernel
theorem dX0_addMade_20 : decode cX0_addMade 20 = .ok (.iaload, 1) := by decide +kernel
theorem dX0_addMade_21 : decode cX0_addMade 21 = .ok (.iconst (-1), 1) := by decide +kernel
theorem dX0_addMade_22 : decode cX0_addMade 22 = .ok (.if_icmp .ne 12, 3) := by decide +kernel
theorem dX0_addMade_25 : decode cX0_addMade 25 = .ok (.aload_n 0, 1) := by decide +kernel
theorem dX0_addMade_26 : decode cX0_addMade 26 = .ok (.getfield 9, 3) := by decide +kernel
theorem dX0_addMade_29 : decode cX0_addMade 29 = .ok (.bipush 120, 2) := by decide +kernel
theorem dX0_addMade_31 : decode cX0_addMade 31 = .ok (.if_icmp .lt 4, 3) := by decide +kernel
theorem dX0_addMade_34 : decode cX0_addMade 34 = .ok (.return_, 1) := by decide +kernel
theorem dX0_addMade_35 : decode cX0_addMade 35 = .ok (.iconst 0, 1) := by decide +kernel
theorem dX0_addMade_36 : decode cX0_addMade 36 = .ok (.istore_n 2, 1) := by decide +kernel
theorem dX0_addMade_37 : decode cX0_addMade 37 = .ok (.iconst 0, 1) := by decide +kernel
theorem dX0_addMade_38 : decode cX0_addMade 38 = .ok (.istore_n 3, 1) := by decide +kernel
theorem dX0_addMade_39 : decode cX0_addMade 39 = .ok (.iload_n 3, 1) := by decide +kernel
theorem dX0_addMade_40 : decode cX0_addMade 40 = .ok (.aload_n 0, 1) := by decide +kernel
theorem dX0_addMade_41 : decode cX0_addMade 41 = .ok (.getfield 22, 3) := by decide +kernel
theorem dX0_addMade_44 : decode cX0_addMade 44 = .ok (.if_icmp .ge 40, 3) := by decide +kernel
theorem dX0_addMade_47 : decode cX0_addMade 47 = .ok (.aload_n 0, 1) := by decide +kernel
theorem dX0_addMade_48 : decode cX0_addMade 48 = .ok (.getfield 25, 3) := by decide +kernel
theorem dX0_addMade_51 : decode cX0_addMade 51 = .ok (.aload_n 0, 1) := by decide +kernel
theorem dX0_addMade_52 : decode cX0_addMade 52 = .ok (.getfield 9, 3) := by decide +kernel
theorem dX0_addMade_55 : decode cX0_addMade 55 = .ok (.iconst 5, 1) := by decide +kernel
theorem dX0_addMade_56 : decode cX0_addMade 56 = .ok (.imul, 1) := by decide +kernel
theorem dX0_addMade_57 : decode cX0_addMade 57 = .ok (.iload_n 3, 1) := by decide +kernel
theorem dX0_addMade_58 : decode cX0_addMade 58 = .ok (.iadd, 1) := by decide +kernel
theorem dX0_addMade_59 : decode cX0_addMade 59 = .ok (.aload_n 0, 1) := by decide +kernel
theorem dX0_addMade_60 : decode cX0_addMade 60 = .ok (.getfield 37, 3) := by decide +kernel
theorem dX0_addMade_63 : decode cX0_addMade 63 = .ok (.iload_n 3, 1) := by decide +kernel
theorem dX0_addMade_64 : decode cX0_addMade 64 = .ok (.iaload, 1) := by decide +kernel
theorem dX0_addMade_65 : decode cX0_addMade 65 = .ok (.iastore, 1) := by decide +kernel
theorem dX0_addMade_66 : decode cX0_addMade 66 = .ok (.bipush 10, 2) := by decide +kernel
theorem dX0_addMade_68 : decode cX0_addMade 68 = .ok (.iload_n 2, 1) := by decide +kernel
theorem dX0_addMade_69 : decode cX0_addMade 69 = .ok (.imul, 1) := by decide +kernel
theorem dX0_addMade_70 : decode cX0_addMade 70 = .ok (.aload_n 0, 1) := by decide +kernel
theorem dX0_addMade_71 : decode cX0_addMade 71 = .ok (.getfield 37, 3) := by decide +kernel
theorem dX0_addMade_74 : decode cX0_addMade 74 = .ok (.iload_n 3, 1) := by decide +kernel
theorem dX0_addMade_75 : decode cX0_addMade 75 = .ok (.iaload, 1) := by decide +kernel
theorem dX0_addMade_76 : decode cX0_addMade 76 = .ok (.iadd, 1) := by decide +kernel
theorem dX0_addMade_77 : decode cX0_addMade 77 = .ok (.istore_n 2, 1) := by decide +kernel
theorem dX0_addMade_78 : decode cX0_addMade 78 = .ok (.iinc 3 1, 3) := by decide +kernel
theorem dX0_addMade_81 : decode cX0_addMade 81 = .ok (.goto (-42), 3) := by decide +kernel
theorem dX0_addMade_84 : decode cX0_addMade 84 = .ok (.aload_n 0, 1) := by decide +kernel
theorem dX0_addMade_85 : decode cX0_addMade 85 = .ok (.getfield 31, 3) := by decide +kernel
theorem dX0_addMade_88 : decode cX0_addMade 88 = .ok (.iload_n 1, 1) := by decide +kernel
theorem dX0_addMade_89 : decode cX0_addMade 89 = .ok (.iload_n 2, 1) := by decide +kernel
theorem dX0_addMade_90 : decode cX0_addMade 90 = .ok (.iastore, 1) := by decide +kernel
theorem dX0_addMade_91 : decode cX0_addMade 91 = .ok (.aload_n 0, 1) := by decide +kernel
theorem dX0_addMade_92 : decode cX0_addMade 92 = .ok (.dup, 1) := by decide +kernel
theorem dX0_addMade_93 : decode cX0_addMade 93 = .ok (.getfield 9, 3) := by decide +kernel
theorem dX0_addMade_96 : decode cX0_addMade 96 = .ok (.iconst 1, 1) := by decide +kernel
theorem dX0_addMade_97 : decode cX0_addMade 97 = .ok (.iadd, 1) := by decide +kernel
theorem dX0_addMade_98 : decode cX0_addMade 98 = .ok (.putfield 9, 3) := by decide +kernel
theorem dX0_addMade_101 : decode cX0_addMade 101 = .ok (.return_, 1) := by decide +kernel
theorem dX0_putInOrder_0 : decode cX0_putInOrder 0 = .ok (.iconst 0, 1) := by decide +kernel
theorem dX0_putInOrder_1 : decode cX0_putInOrder 1 = .ok (.istore_n 1, 1) := by decide +kernel
theorem dX0_putInOrder_2 : decode cX0_putInOrder 2 = .ok (.iconst 0, 1) := by decide +kernel
theorem dX0_putInOrder_3 : decode cX0_putInOrder 3 = .ok (.istore_n 2, 1) := by decide +kernel
theorem dX0_putInOrder_4 : decode cX0_putInOrder 4 = .ok (.iload_n 2, 1) := by decide +kernel
theorem dX0_putInOrder_5 : decode cX0_putInOrder 5 = .ok (.sipush 625, 3) := by decide +kernel
theorem dX0_putInOrder_8 : decode cX0_putInOrder 8 = .ok (.if_icmp .ge 66, 3) := by decide +kernel
theorem dX0_putInOrder_11 : decode cX0_putInOrder 11 = .ok (.iload_n 1, 1) := by decide +kernel
theorem dX0_putInOrder_12 : decode cX0_putInOrder 12 = .ok (.aload_n 0, 1) := by decide +kernel
theorem dX0_putInOrder_13 : decode cX0_putInOrder 13 = .ok (.getfield 9, 3) := by decide +kernel
theorem dX0_putInOrder_16 : decode cX0_putInOrder 16 = .ok (.if_icmp .ge 58, 3) := by decide +kernel
theorem dX0_putInOrder_19 : decode cX0_putInOrder 19 = .ok (.aload_n 0, 1) := by decide +kernel
theorem dX0_putInOrder_20 : decode cX0_putInOrder 20 = .ok (.getfield 31, 3) := by decide +kernel
theorem dX0_putInOrder_23 : decode cX0_putInOrder 23 = .ok (.iload_n 2, 1) := by decide +kernel
theorem dX0_putInOrder_24 : decode cX0_putInOrder 24 = .ok (.iaload, 1) := by decide +kernel
theorem dX0_putInOrder_25 : decode cX0_putInOrder 25 = .ok (.iconst (-1), 1) := by decide +kernel
theorem dX0_putInOrder_26 : decode cX0_putInOrder 26 = .ok (.if_icmp .eq 42, 3) := by decide +kernel
theorem dX0_putInOrder_29 : decode cX0_putInOrder 29 = .ok (.aload_n 0, 1) := by decide +kernel
theorem dX0_putInOrder_30 : decode cX0_putInOrder 30 = .ok (.getfield 34, 3) := by decide +kernel
theorem dX0_putInOrder_33 : decode cX0_putInOrder 33 = .ok (.iload_n 2, 1) := by decide +kernel
theorem dX0_putInOrder_34 : decode cX0_putInOrder 34 = .ok (.iload_n 1, 1) := by decide +kernel
theorem dX0_putInOrder_35 : decode cX0_putInOrder 35 = .ok (.iastore, 1) := by decide +kernel
theorem dX0_putInOrder_36 : decode cX0_putInOrder 36 = .ok (.aload_n 0, 1) := by decide +kernel
theorem dX0_putInOrder_37 : decode cX0_putInOrder 37 = .ok (.getfield 15, 3) := by decide +kernel
theorem dX0_putInOrder_40 : decode cX0_putInOrder 40 = .ok (.iload_n 1, 1) := by decide +kernel
theorem dX0_putInOrder_41 : decode cX0_putInOrder 41 = .ok (.aload_n 0, 1) := by decide +kernel
theorem dX0_putInOrder_42 : decode cX0_putInOrder 42 = .ok (.getfield 31, 3) := by decide +kernel
theorem dX0_putInOrder_45 : decode cX0_putInOrder 45 = .ok (.iload_n 2, 1) := by decide +kernel
theorem dX0_putInOrder_46 : decode cX0_putInOrder 46 = .ok (.iaload, 1) := by decide +kernel
theorem dX0_putInOrder_47 : decode cX0_putInOrder 47 = .ok (.iastore, 1) := by decide +kernel
theorem dX0_putInOrder_48 : decode cX0_putInOrder 48 = .ok (.aload_n 0, 1) := by decide +kernel
theorem dX0_putInOrder_49 : decode cX0_putInOrder 49 = .ok (.aload_n 0, 1) := by decide +kernel
theorem dX0_putInOrder_50 : decode cX0_putInOrder 50 = .ok (.getfield 15, 3) := by decide +kernel
theorem dX0_putInOrder_53 : decode cX0_putInOrder 53 = .ok (.iload_n 1, 1) := by decide +kernel
theorem dX0_putInOrder_54 : decode cX0_putInOrder 54 = .ok (.iaload, 1) := by decide +kernel
theorem dX0_putInOrder_55 : decode cX0_putInOrder 55 = .ok (.aload_n 0, 1) := by decide +kernel
theorem dX0_putInOrder_56 : decode cX0_putInOrder 56 = .ok (.getfield 25, 3) := by decide +kernel
theorem dX0_putInOrder_59 : decode cX0_putInOrder 59 = .ok (.iload_n 1, 1) := by decide +kernel
theorem dX0_putInOrder_60 : decode cX0_putInOrder 60 = .ok (.iconst 5, 1) := by decide +kernel
theorem dX0_putInOrder_61 : decode cX0_putInOrder 61 = .ok (.imul, 1) := by decide +kernel
theorem dX0_putInOrder_62 : decode cX0_putInOrder 62 = .ok (.invokevirtual 47, 3) := by decide +kernel
theorem dX0_putInOrder_65 : decode cX0_putInOrder 65 = .ok (.iinc 1 1, 3) := by decide +kernel
theorem dX0_putInOrder_68 : decode cX0_putInOrder 68 = .ok (.iinc 2 1, 3) := by decide +kernel
theorem dX0_putInOrder_71 : decode cX0_putInOrder 71 = .ok (.goto (-67), 3) := by decide +kernel
theorem dX0_putInOrder_74 : decode cX0_putInOrder 74 = .ok (.return_, 1) := by decide +kernel
theorem dX0_findInverses_0 : decode cX0_findInverses 0 = .ok (.iconst 0, 1) := by decide +kernel
theorem dX0_findInverses_1 : decode cX0_findInverses 1 = .ok (.istore_n 1, 1) := by decide +kernel
theorem dX0_findInverses_2 : decode cX0_findInverses 2 = .ok (.iload_n 1, 1) := by decide +kernel
theorem dX0_findInverses_3 : decode cX0_findInverses 3 = .ok (.aload_n 0, 1) := by decide +kernel
theorem dX0_findInverses_4 : decode cX0_findInverses 4 = .ok (.getfield 9, 3) := by decide +kernel
theorem dX0_findInverses_7 : decode cX0_findInverses 7 = .ok (.if_icmp .ge 51, 3) := by decide +kernel
theorem dX0_findInverses_10 : decode cX0_findInverses 10 = .ok (.iconst 0, 1) := by decide +kernel
theorem dX0_findInverses_11 : decode cX0_findInverses 11 = .ok (.istore_n 2, 1) := by decide +kernel
theorem dX0_findInverses_12 : decode cX0_findInverses 12 = .ok (.iload_n 2, 1) := by decide +kernel
theorem dX0_findInverses_13 : decode cX0_findInverses 13 = .ok (.aload_n 0, 1) := by decide +kernel
theorem dX0_findInverses_14 : decode cX0_findInverses 14 = .ok (.getfield 22, 3) := by decide +kernel
theorem dX0_findInverses_17 : decode cX0_findInverses 17 = .ok (.if_icmp .ge 25, 3) := by decide +kernel
theorem dX0_findInverses_20 : decode cX0_findInverses 20 = .ok (.aload_n 0, 1) := by decide +kernel
theorem dX0_findInverses_21 : decode cX0_findInverses 21 = .ok (.getfield 37, 3) := by decide +kernel
theorem dX0_findInverses_24 : decode cX0_findInverses 24 = .ok (.aload_n 0, 1) := by decide +kernel
theorem dX0_findInverses_25 : decode cX0_findInverses 25 = .ok (.getfield 25, 3) := by decide +kernel
theorem dX0_findInverses_28 : decode cX0_findInverses 28 = .ok (.iload_n 1, 1) := by decide +kernel
theorem dX0_findInverses_29 : decode cX0_findInverses 29 = .ok (.iconst 5, 1) := by decide +kernel
theorem dX0_findInverses_30 : decode cX0_findInverses 30 = .ok (.imul, 1) := by decide +kernel
theorem dX0_findInverses_31 : decode cX0_findInverses 31 = .ok (.iload_n 2, 1) := by decide +kernel
theorem dX0_findInverses_32 : decode cX0_findInverses 32 = .ok (.iadd, 1) := by decide +kernel
theorem dX0_findInverses_33 : decode cX0_findInverses 33 = .ok (.iaload, 1) := by decide +kernel
theorem dX0_findInverses_34 : decode cX0_findInverses 34 = .ok (.iload_n 2, 1) := by decide +kernel
theorem dX0_findInverses_35 : decode cX0_findInverses 35 = .ok (.iastore, 1) := by decide +kernel
theorem dX0_findInverses_36 : decode cX0_findInverses 36 = .ok (.iinc 2 1, 3) := by decide +kernel
theorem dX0_findInverses_39 : decode cX0_findInverses 39 = .ok (.goto (-27), 3) := by decide +kernel
theorem dX0_findInverses_42 : decode cX0_findInverses 42 = .ok (.aload_n 0, 1) := by decide +kernel
theorem dX0_findInverses_43 : decode cX0_findInverses 43 = .ok (.getfield 19, 3) := by decide +kernel
theorem dX0_findInverses_46 : decode cX0_findInverses 46 = .ok (.iload_n 1, 1) := by decide +kernel
theorem dX0_findInverses_47 : decode cX0_findInverses 47 = .ok (.aload_n 0, 1) := by decide +kernel
theorem dX0_findInverses_48 : decode cX0_findInverses 48 = .ok (.invokevirtual 61, 3) := by decide +kernel
theorem dX0_findInverses_51 : decode cX0_findInverses 51 = .ok (.iastore, 1) := by decide +kernel
theorem dX0_findInverses_52 : decode cX0_findInverses 52 = .ok (.iinc 1 1, 3) := by decide +kernel
theorem dX0_findInverses_55 : decode cX0_findInverses 55 = .ok (.goto (-53), 3) := by decide +kernel
theorem dX0_findInverses_58 : decode cX0_findInverses 58 = .ok (.return_, 1) := by decide +kernel
theorem dX0_spell_0 : decode cX0_spell 0 = .ok (.iload_n 1, 1) := by decide +kernel
theorem dX0_spell_1 : decode cX0_spell 1 = .ok (.istore 4, 2) := by decide +kernel
theorem dX0_spell_3 : decode cX0_spell 3 = .ok (.aload_n 0, 1) := by decide +kernel
theorem dX0_spell_4 : decode cX0_spell 4 = .ok (.getfield 22, 3) := by decide +kernel
theorem dX0_spell_7 : decode cX0_spell 7 = .ok (.iconst 1, 1) := by decide +kernel
theorem dX0_spell_8 : decode cX0_spell 8 = .ok (.isub, 1) := by decide +kernel
theorem dX0_spell_9 : decode cX0_spell 9 = .ok (.istore 5, 2) := by decide +kernel
theorem dX0_spell_11 : decode cX0_spell 11 = .ok (.iload 5, 2) := by decide +kernel
theorem dX0_spell_13 : decode cX0_spell 13 = .ok (.ifCond .lt 27, 3) := by decide +kernel
theorem dX0_spell_16 : decode cX0_spell 16 = .ok (.aload_n 2, 1) := by decide +kernel
theorem dX0_spell_17 : decode cX0_spell 17 = .ok (.iload_n 3, 1) := by decide +kernel
theorem dX0_spell_18 : decode cX0_spell 18 = .ok (.iload 5, 2) := by decide +kernel
theorem dX0_spell_20 : decode cX0_spell 20 = .ok (.iadd, 1) := by decide +kernel
theorem dX0_spell_21 : decode cX0_spell 21 = .ok (.iload 4, 2) := by decide +kernel
theorem dX0_spell_23 : decode cX0_spell 23 = .ok (.bipush 10, 2) := by decide +kernel
theorem dX0_spell_25 : decode cX0_spell 25 = .ok (.irem, 1) := by decide +kernel
theorem dX0_spell_26 : decode cX0_spell 26 = .ok (.iastore, 1) := by decide +kernel
theorem dX0_spell_27 : decode cX0_spell 27 = .ok (.iload 4, 2) := by decide +kernel
theorem dX0_spell_29 : decode cX0_spell 29 = .ok (.bipush 10, 2) := by decide +kernel
theorem dX0_spell_31 : decode cX0_spell 31 = .ok (.idiv, 1) := by decide +kernel
theorem dX0_spell_32 : decode cX0_spell 32 = .ok (.istore 4, 2) := by decide +kernel
theorem dX0_spell_34 : decode cX0_spell 34 = .ok (.iinc 5 (-1), 3) := by decide +kernel
theorem dX0_spell_37 : decode cX0_spell 37 = .ok (.goto (-26), 3) := by decide +kernel
theorem dX0_spell_40 : decode cX0_spell 40 = .ok (.return_, 1) := by decide +kernel
theorem dX0_placeOfMade_0 : decode cX0_placeOfMade 0 = .ok (.aload_n 0, 1) := by decide +kernel
theorem dX0_placeOfMade_1 : decode cX0_placeOfMade 1 = .ok (.invokevirtual 74, 3) := by decide +kernel
theorem dX0_placeOfMade_4 : decode cX0_placeOfMade 4 = .ok (.istore_n 1, 1) := by decide +kernel
theorem dX0_placeOfMade_5 : decode cX0_placeOfMade 5 = .ok (.iload_n 1, 1) := by decide +kernel
theorem dX0_placeOfMade_6 : decode cX0_placeOfMade 6 = .ok (.sipush 625, 3) := by decide +kernel
theorem dX0_placeOfMade_9 : decode cX0_placeOfMade 9 = .ok (.invokestatic 77, 3) := by decide +kernel
theorem dX0_placeOfMade_12 : decode cX0_placeOfMade 12 = .ok (.ifCond .eq 12, 3) := by decide +kernel
theorem dX0_placeOfMade_15 : decode cX0_placeOfMade 15 = .ok (.aload_n 0, 1) := by decide +kernel
theorem dX0_placeOfMade_16 : decode cX0_placeOfMade 16 = .ok (.getfield 34, 3) := by decide +kernel
theorem dX0_placeOfMade_19 : decode cX0_placeOfMade 19 = .ok (.iload_n 1, 1) := by decide +kernel
theorem dX0_placeOfMade_20 : decode cX0_placeOfMade 20 = .ok (.iaload, 1) := by decide +kernel
theorem dX0_placeOfMade_21 : decode cX0_placeOfMade 21 = .ok (.goto 4, 3) := by decide +kernel
theorem dX0_placeOfMade_24 : decode cX0_placeOfMade 24 = .ok (.iconst 0, 1) := by decide +kernel
theorem dX0_placeOfMade_25 : decode cX0_placeOfMade 25 = .ok (.ireturn, 1) := by decide +kernel
theorem dX0_keyOfMade_0 : decode cX0_keyOfMade 0 = .ok (.iconst 0, 1) := by decide +kernel
theorem dX0_keyOfMade_1 : decode cX0_keyOfMade 1 = .ok (.istore_n 1, 1) := by decide +kernel
theorem dX0_keyOfMade_2 : decode cX0_keyOfMade 2 = .ok (.iconst 0, 1) := by decide +kernel
theorem dX0_keyOfMade_3 : decode cX0_keyOfMade 3 = .ok (.istore_n 2, 1) := by decide +kernel
theorem dX0_keyOfMade_4 : decode cX0_keyOfMade 4 = .ok (.iload_n 2, 1) := by decide +kernel
theorem dX0_keyOfMade_5 : decode cX0_keyOfMade 5 = .ok (.aload_n 0, 1) := by decide +kernel
theorem dX0_keyOfMade_6 : decode cX0_keyOfMade 6 = .ok (.getfield 22, 3) := by decide +kernel
theorem dX0_keyOfMade_9 : decode cX0_keyOfMade 9 = .ok (.iconst 1, 1) := by decide +kernel
theorem dX0_keyOfMade_10 : decode cX0_keyOfMade 10 = .ok (.isub, 1) := by decide +kernel
theorem dX0_keyOfMade_11 : decode cX0_keyOfMade 11 = .ok (.if_icmp .ge 20, 3) := by decide +kernel
theorem dX0_keyOfMade_14 : decode cX0_keyOfMade 14 = .ok (.iconst 5, 1) := by decide +kernel
theorem dX0_keyOfMade_15 : decode cX0_keyOfMade 15 = .ok (.iload_n 1, 1) := by decide +kernel
theorem dX0_keyOfMade_16 : decode cX0_keyOfMade 16 = .ok (.imul, 1) := by decide +kernel
theorem dX0_keyOfMade_17 : decode cX0_keyOfMade 17 = .ok (.aload_n 0, 1) := by decide +kernel
theorem dX0_keyOfMade_18 : decode cX0_keyOfMade 18 = .ok (.getfield 37, 3) := by decide +kernel
theorem dX0_keyOfMade_21 : decode cX0_keyOfMade 21 = .ok (.iload_n 2, 1) := by decide +kernel
theorem dX0_keyOfMade_22 : decode cX0_keyOfMade 22 = .ok (.iaload, 1) := by decide +kernel
theorem dX0_keyOfMade_23 : decode cX0_keyOfMade 23 = .ok (.iadd, 1) := by decide +kernel
theorem dX0_keyOfMade_24 : decode cX0_keyOfMade 24 = .ok (.istore_n 1, 1) := by decide +kernel
theorem dX0_keyOfMade_25 : decode cX0_keyOfMade 25 = .ok (.iinc 2 1, 3) := by decide +kernel
theorem dX0_keyOfMade_28 : decode cX0_keyOfMade 28 = .ok (.goto (-24), 3) := by decide +kernel
theorem dX0_keyOfMade_31 : decode cX0_keyOfMade 31 = .ok (.iload_n 1, 1) := by decide +kernel
theorem dX0_keyOfMade_32 : decode cX0_keyOfMade 32 = .ok (.ireturn, 1) := by decide +kernel
